theorem nT_ne {σ : S2} {b k : Nat} (h : k < 182 + 6 * b ∨ 182 + 6 * b + 6 ≤ k) : (nT σ b).1 k = σ.1 k := by
  show (if k < 182 + 6 * b then σ.1 k else if k = 182 + 6 * b then _ else if k < 182 + 6 * b + 6 then _ else σ.1 k) = _
  rcases h with h | h
  · rw [if_pos h]
  · rw [if_neg (by omega), if_neg (by omega), if_neg (by omega)]
theorem nT_0 {σ : S2} {b : Nat} : (nT σ b).1 (182 + 6 * b) = tabI := by
  show (if 182 + 6 * b < 182 + 6 * b then _ else if 182 + 6 * b = 182 + 6 * b then _ else _) = _
  rw [if_neg (by omega), if_pos rfl]
theorem nT_j {σ : S2} {b j : Nat} (h0 : 1 ≤ j) (h1 : j < 6) : (nT σ b).1 (182 + 6 * b + j) = (fun _ => 0) := by
  show (if 182 + 6 * b + j < 182 + 6 * b then _ else if 182 + 6 * b + j = 182 + 6 * b then _ else if 182 + 6 * b + j < 182 + 6 * b + 6 then _ else _) = _
  rw [if_neg (by omega), if_neg (by omega), if_pos (by omega)]
theorem ivC_nT {τ b : Nat} {σ : S2} (h : IvC 0 τ σ) : IvC 0 τ (nT σ b) := by
  refine ⟨fun k i => ?_, fun b' hb' => ?_, ?_⟩
  · by_cases h1 : k < 182 + 6 * b ∨ 182 + 6 * b + 6 ≤ k
    · rw [nT_ne h1]; exact h.1 k i
    · obtain ⟨j, hj, rfl⟩ : ∃ j, j < 6 ∧ k = 182 + 6 * b + j := ⟨k - (182 + 6 * b), by omega, by omega⟩
      rw [loC_t b j i hj, hiC_t b j i hj]
      by_cases e : j = 0
      · subst e
        show loT 0 i ≤ ((nT σ b).1 (182 + 6 * b) i).toInt ∧ ((nT σ b).1 (182 + 6 * b) i).toInt ≤ hiT 0 i
        rw [nT_0]; exact bvT i
      · rw [nT_j (by omega) hj]; exact bvTj j (by omega) hj i
  · by_cases e : b' = b
    · subst e; left; rw [nT_0]; rfl
    · rw [nT_ne (by omega), nT_ne (by omega), nT_ne (by omega)]; exact h.2.1 b' hb'
  · rw [nT_ne (Or.inl (by omega))]; exact h.2.2
theorem ivC_cnt {τ : Nat} {σ : S2} {x : Int32} (h : IvC 0 τ σ) (hx : x.toInt = (σ.1 0 6).toInt + 1) (h10 : τ < 10) : IvC 0 (τ + 1) (ux_wI σ 0 6 x) := by
  have hc := h.2.2
  refine ⟨h.1.wI (show (0 : Int) ≤ x.toInt by omega) (show x.toInt ≤ 10 by omega), fun b hb => ?_, ?_⟩
  · rw [ux_wI_ne (by rintro ⟨q, _⟩; omega)]
    rcases h.2.1 b hb with e | e
    · exact Or.inl e
    · refine Or.inr (fun p hp => ?_)
      rw [ux_wI_ne (by rintro ⟨q, _⟩; omega), ux_wI_ne (by rintro ⟨q, _⟩; omega)]; exact e p hp
  · rw [ux_wI_eq]; omega
theorem tabRest_ok {τ : Nat} {σ : S2} {x2 : Int32} (hI : IvC 0 τ σ) (h10 : τ < 10) : Ok (fun z => IvC 0 (τ + z.2.1) z.2.2 ∧ z.2.1 ≤ 1) (tabRest τ σ x2) := by
  have one : (1 : Int32).toInt = 1 := rfl
  unfold tabRest
  refine ok_bs (sX8_takeAll τ (τ + 1) 0 σ hI) (fun r1 σ2 h2 => ?_)
  refine ok_bs (sX8_seatAll τ (τ + 1) σ2 x2 h2) (fun r4 σ5 h5 => ?_)
  have h5 : IvC 0 τ σ5 := h5
  have hc := h5.2.2
  have en := i32_nat (i := (σ5.1 0 6)) (by omega)
  refine ok_ck (by omega) (by omega) ?_
  rw [if_pos (by omega)]
  refine ok_nm (fun σ7 h7 => ok_some ?_)
  refine ⟨?_, Nat.le_refl _⟩
  show IvC 0 (τ + 1) σ7
  rw [h7]
  exact ivC_cnt h5 (by rw [i32_add (by omega) (by omega), one]) h10
theorem sX11_table {τ : Nat} {σ : S2} {a1 a2 : Int32} (hI : IvC 0 τ σ) : Ok (fun z => IvC 0 (τ + z.2.1) z.2.2 ∧ z.2.1 ≤ 1) (fX11_table τ σ a1 a2) := by
  have e10 : (10 : Int32).toInt = 10 := rfl
  have z0 : (0 : Int32).toInt = 0 := rfl
  have back : ∀ (v : Int32) (σ' : S2), IvC 0 τ σ' → Ok (fun z : Int32 × Nat × S2 => IvC 0 (τ + z.2.1) z.2.2 ∧ z.2.1 ≤ 1) (some (v, 0, σ')) := fun v σ' h => ok_some ⟨h, Nat.zero_le _⟩
  unfold fX11_table fX11_table_0
  refine ok_nm (fun v1 _ => ?_)
  refine ok_eq (fun _ => back _ _ hI) (fun _ => ?_)
  refine ok_eq (fun _ => ?_) (fun _ => back _ _ hI)
  refine ok_lt (fun hlt => ?_) (fun _ => back _ _ hI)
  have hc := hI.2.2
  refine ok_bs (sX8_takeMembers τ 0 σ a1 hI) (fun r2 σ3 h3 => ?_)
  have h3 : IvC 0 τ σ3 := h3
  refine ok_bs (sX8_takeLaw τ 0 2 80 σ3 (σ3.1 1 1) h3 ByC.a2 (by decide)) (fun r5 σ6 h6 => ?_)
  have h6 : IvC 0 τ σ6 := h6
  refine ok_nm (fun σ8 h8 => ?_)
  have hI8 : IvC 0 τ σ8 := by rw [h8]; exact h6.wF (by decide) (by omega) (show (0 : Int) ≤ (0 : Int32).toInt by decide) (show (0 : Int32).toInt ≤ 80 by decide)
  refine ok_bs (sX3_workOut τ σ8 hI8) (fun r9 σ10 h10 => ?_)
  have h10 : IvC 0 τ σ10 := h10
  refine ok_eq (fun _ => ?_) (fun _ => back _ _ h10)
  unfold tabNew
  exact tabRest_ok (ivC_nT h10) (by omega)
