/-! the relation over all other methods: by frames -/
theorem nb_of {a M g : Nat} (h : a &&& M = 0) (hg : M.testBit g = true) : a.testBit g = false := by
  have := congrArg (fun n => n.testBit g) h
  simp only [Nat.testBit_and, hg, Nat.zero_testBit, Bool.and_true] at this
  exact this
theorem RelA.fr {σ ρ σ' ρ' : S2} {a b : Nat} (h : RelA σ ρ) (hc : Fr gC a σ σ') (hm : Fr gM b ρ ρ') (e : a &&& 7340408 = 0) (f : b &&& 7340408 = 0) : RelA σ' ρ' := by
  obtain ⟨hk, hF, hA, hS, hE⟩ := h
  refine ⟨hk.fr hc hm (nb_of e rfl) (nb_of e rfl) (nb_of e rfl) (nb_of e rfl) (nb_of f rfl) (nb_of f rfl) (nb_of f rfl) (nb_of f rfl), hF.fr hc hm (nb_of e rfl) (nb_of f rfl), hA.fr hc hm (nb_of e rfl) (nb_of f rfl), hS.fr hc hm (nb_of e rfl) (nb_of f rfl) ?_, hE.fr hc hm (nb_of e rfl) (nb_of f rfl)⟩
  rw [(hc 7 5 (nb_of (g := 3) e rfl)).1]; exact Int.le_refl _
theorem nT_fr {m τ : Nat} {σ0 σ : S2} (h : Fr gC m σ0 σ) (h9 : m.testBit 9 = true) (h10 : m.testBit 10 = true) : Fr gC m σ0 (nT σ (τ + 1)) := fun k i e => by
  refine ⟨?_, (h k i e).2⟩
  have hg : 182 + 6 * (τ + 1) ≤ k → k < 182 + 6 * (τ + 1) + 6 → False := fun q1 q2 => by
    have e2 : m.testBit (gC k i) = true := by
      unfold gC
      rw [if_neg (by omega), if_neg (by omega), if_neg (by omega), if_neg (by omega), if_neg (by omega), if_neg (by omega), if_neg (by omega), if_neg (by omega), if_neg (by omega), if_neg (by omega)]
      unfold gB
      split
      · split
        · exact h10
        · exact h9
      · exact h10
      · exact h9
    rw [e2] at e; exact absurd e (by decide)
  show (if k < 182 + 6 * (τ + 1) then σ.1 k else if k = 182 + 6 * (τ + 1) then tabI else if k < 182 + 6 * (τ + 1) + 6 then (fun _ => 0) else σ.1 k) i = _
  by_cases c1 : k < 182 + 6 * (τ + 1)
  · rw [if_pos c1]; exact (h k i e).1
  · rw [if_neg c1]
    by_cases c2 : k = 182 + 6 * (τ + 1)
    · exact (hg (by omega) (by omega)).elim
    · rw [if_neg c2]
      by_cases c3 : k < 182 + 6 * (τ + 1) + 6
      · exact (hg (by omega) c3).elim
      · rw [if_neg c3]; exact (h k i e).1
theorem wfX11_table {τ : Nat} {σ : S2} {a b : Int32} : Pt (fun z : Int32 × Nat × S2 => Fr gC 25167363 σ z.2.2) (fX11_table τ σ a b) := by
  have hT : (25167363 : Nat).testBit (gT (τ + 1)) = true := by
    unfold gT
    rw [if_neg (by omega)]; rfl
  unfold fX11_table fX11_table_0
  refine pt_nm (fun v _ => pt_if (fun _ => pt_some (Fr.rf σ)) (fun _ => pt_if (fun _ => pt_if (fun _ => ?_) (fun _ => pt_some (Fr.rf σ))) (fun _ => pt_some (Fr.rf σ))))
  refine pt_bs (pt_fr (wfX8_takeMembers (m := 25167363) rfl τ 0 rfl σ a (Fr.rf σ))) (fun r s1 h1 => ?_)
  refine pt_bs (pt_fr (wfX8_takeLaw (m := 25167363) rfl τ 0 2 80 rfl s1 _ h1)) (fun r s2 h2 => ?_)
  refine pt_nm (fun s3 e3 => ?_)
  subst e3
  have h3 := Fr.wI (k := 1) (i := 1) (x := 0) h2 rfl
  refine pt_bs (pt_fr (wfX3_workOut (m := 25167363) rfl τ _ h3)) (fun r s4 h4 => ?_)
  refine pt_if (fun _ => ?_) (fun _ => pt_some h4)
  unfold tabNew tabRest
  refine pt_bs (pt_fr (wfX8_takeAll (m := 25167363) rfl τ (τ + 1) 0 hT _ (nT_fr h4 rfl rfl))) (fun r s5 h5 => ?_)
  refine pt_bs (pt_fr (wfX8_seatAll (m := 25167363) rfl τ (τ + 1) hT s5 b h5)) (fun r s6 h6 => ?_)
  exact pt_ck (fun _ _ _ => pt_if (fun _ => pt_some (Fr.wI (k := 0) (i := 6) h6 rfl)) (fun _ => pt_none))
