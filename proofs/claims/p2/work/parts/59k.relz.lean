section TABNEW
variable {σ σ' : S2} {τ δ : Nat} {b r : Int32}
/-- a new table: the count goes up by one; nothing else but tables and odds -/
theorem tabNew_fr (h : tabNew τ σ b = some (r, δ, σ')) : Fr gC 16778752 σ σ' ∧ σ'.1 0 6 = σ.1 0 6 + 1 := by
  have hT : (16778752 : Nat).testBit (gT (τ + 1)) = true := by
    unfold gT
    rw [if_neg (by omega)]; rfl
  have hT2 : (1536 : Nat).testBit (gT (τ + 1)) = true := by
    unfold gT
    rw [if_neg (by omega)]; rfl
  unfold tabNew tabRest at h
  obtain ⟨u5, s5, f5, h⟩ := bsS h
  obtain ⟨u6, s6, f6, h⟩ := bsS h
  obtain ⟨_, h⟩ := ckS h
  have g0 := nT_fr (m := 16778752) (τ := τ) (Fr.rf σ) rfl rfl
  have g5 := wfX8_takeAll (m := 16778752) rfl τ (τ + 1) 0 hT _ g0 _ f5
  have g6 := wfX8_seatAll (m := 16778752) rfl τ (τ + 1) hT s5 b g5 _ f6
  have q5 := wfX8_takeAll (m := 1536) rfl τ (τ + 1) 0 hT2 _ (Fr.rf _) _ f5
  have q6 := wfX8_seatAll (m := 1536) rfl τ (τ + 1) hT2 s5 b q5 _ f6
  have e6 : s6.1 0 6 = σ.1 0 6 := by
    have w : (nT σ (τ + 1)).1 0 6 = σ.1 0 6 := rfl
    rw [← w]; exact q6.at 0 6 24 rfl rfl
  by_cases c : Int32.toNatClampNeg (s6.1 0 6) = τ
  · rw [if_pos c] at h
    have h : some ((ux_wI s6 0 6 (s6.1 0 6 + 1)).1 0 6 - 1, 1, ux_wI s6 0 6 (s6.1 0 6 + 1)) = some (r, δ, σ') := h
    cases h
    exact ⟨Fr.wI (k := 0) (i := 6) g6 rfl, by rw [wI_eq, e6]⟩
  · rw [if_neg c] at h; cases h
end TABNEW
/-! table(): tape and the tables' count -/
/-- the draft before its law is worked out -/
def D8 (σ σ8 : S2) (a : Int32) : Prop := (∀ k i : Nat, k ≠ 182 → k ≠ 183 → k ≠ 185 → ¬ (k = 1 ∧ i = 1) → σ8.1 k i = σ.1 k i) ∧ σ8.1 182 0 = a ∧ (∀ k : Nat, k < 12 → σ8.1 183 k = if a.toInt.toNat.testBit k then cntI (σ.1 8 k) (σ.1 10 k) else 0) ∧ σ8.1 182 6 = σ.1 1 1 ∧ (∀ i : Nat, (i : Int) < (σ.1 1 1).toInt → σ8.1 185 i = σ.1 2 i) ∧ σ8.1 1 1 = 0
section TABLE
variable {σ ρ σ' ρ' : S2} {τ δ : Nat} {a b r q : Int32}
/-- table() of both sides, step by step: nothing; a fault on both sides; a table on both sides -/
theorem tab_split (hK : RK σ ρ) (hT : RTp σ ρ) (hN : ρ.1 0 9 = σ.1 0 6) (hI : IvC 0 τ σ) (hM : IvM 0 ρ) (hM' : IvM 0 ρ') (h : fX11_table τ σ a b = some (r, δ, σ')) (h2 : fX12_table ρ a b = some (q, ρ')) : (σ' = σ ∧ ρ' = ρ) ∨ ((0 < a.toInt ∧ a.toInt < 2 ^ (σ.1 7 5).toInt.toNat) ∧ (σ.1 0 6).toInt < 10 ∧ ∃ (σ8 σ10 ρ1 ρ2 ρ3 : S2) (r9 r5 : Int32) (u : Unit), D8 σ σ8 a ∧ MT ρ ρ1 (ρ.1 0 9) a b ∧ fX3_workOut τ σ8 = some (r9, σ10) ∧ fX12_numbers ρ1 (ρ.1 0 9) = some (u, ρ2) ∧ fX12_reads ρ2 (ρ.1 0 9) = some (r5, ρ3) ∧ ((PC (ρ.1 0 9) σ10 ρ3 ∧ tabNew τ σ10 b = some (r, δ, σ') ∧ ∃ (u2 : Unit) (ρ4 : S2), fX12_sits ρ3 (ρ.1 0 9) = some (u2, ρ4) ∧ ρ' = ux_wI ρ4 0 9 (ρ4.1 0 9 + 1)) ∨ (σ' = σ10 ∧ ρ' = ρ3))) := by
  have z0 := i_0
  have z10 : (10 : Int32).toInt = 10 := rfl
  have nb : 0 ≤ (σ.1 7 5).toInt ∧ (σ.1 7 5).toInt ≤ 12 := hI.1 7 5
  have tb : 0 ≤ (σ.1 0 6).toInt ∧ (σ.1 0 6).toInt ≤ 10 := hI.1 0 6
  have lb : 0 ≤ (σ.1 1 1).toInt ∧ (σ.1 1 1).toInt ≤ 80 := hI.1 1 1
  have si := set_iff (x := a) nb.1 nb.2
  have sl := i32_shl1 nb.1 nb.2
  obtain ⟨k1, k2, k3, k4, k5⟩ := id hK
  have p12 : (2 : Int) ^ (σ.1 7 5).toInt.toNat ≤ 4096 := by
    have w : 2 ^ (σ.1 7 5).toInt.toNat ≤ 2 ^ 12 := Nat.pow_le_pow_right (by decide) (by omega)
    have e : 2 ^ 12 = 4096 := by decide
    have c : ((2 ^ (σ.1 7 5).toInt.toNat : Nat) : Int) = (2 : Int) ^ (σ.1 7 5).toInt.toNat := by rw [Int.natCast_pow]; rfl
    omega
  unfold fX11_table fX11_table_0 at h
  have h : (if a = 0 then some ((-1 : Int32), 0, σ) else if (a &&& ((((1 : Int32) <<< (σ.1 7 5 &&& 31)) - 1) ^^^ (-1))) = 0 then if (σ.1 0 6) < 10 then bs (fX8_takeMembers τ 0 σ a) (fun _ σ3 => bs (fX8_takeLaw τ 0 2 80 σ3 (σ3.1 1 1)) (fun _ σ6 => bs (fX3_workOut τ (ux_wI σ6 1 1 0)) (fun r9 σ10 => if r9 = (-1) then tabNew τ σ10 b else some ((-100) - r9, 0, σ10)))) else some ((-3), 0, σ) else some ((-1), 0, σ)) = some (r, δ, σ') := h
  unfold fX12_table fX12_table_0 at h2
  rw [k1] at h2
  by_cases hs : 0 < a.toInt ∧ a.toInt < 2 ^ (σ.1 7 5).toInt.toNat
  · obtain ⟨s1, s2⟩ := si.mpr hs
    rw [if_neg s1, if_pos s2] at h
    rw [if_neg (fun w => by have := Int32.le_iff_toInt_le.mp w; omega), if_pos (Int32.lt_iff_toInt_lt.mpr (by rw [sl]; exact hs.2))] at h2
    by_cases hf : σ.1 0 6 = 10
    · rw [if_neg (fun w => by have := Int32.lt_iff_toInt_lt.mp w; rw [hf] at this; omega)] at h
      rw [if_pos (hN.trans hf)] at h2
      cases h; cases h2; exact Or.inl ⟨rfl, rfl⟩
    · have hf10 : (σ.1 0 6).toInt ≠ 10 := fun w => hf (Int32.toInt_inj.mp w)
      rw [if_pos (Int32.lt_iff_toInt_lt.mpr (by omega))] at h
      rw [if_neg (fun w => hf (hN.symm.trans w))] at h2
      obtain ⟨u3, σ3, f3, h⟩ := bsS h
      obtain ⟨a1, a2, a3⟩ := c_members (by omega) (by omega) _ f3
      obtain ⟨u6, σ6, f6, h⟩ := bsS h
      have t3 : σ3.1 1 1 = σ.1 1 1 := a3 1 1 (by decide) (fun w => absurd w.1 (by decide))
      obtain ⟨l1, l2, l3⟩ := c_law (by rw [t3]; exact lb.1) (by rw [t3]; exact lb.2) _ f6
      obtain ⟨r9, σ10, f9, h⟩ := bsS h
      have t0 : 0 ≤ (ρ.1 0 9).toInt := by rw [hN]; exact tb.1
      have t1 : (ρ.1 0 9).toInt ≤ 10 := by rw [hN]; exact tb.2
      have b3 : 0 ≤ (ρ.1 0 3).toInt ∧ (ρ.1 0 3).toInt ≤ 12 := by rw [k1]; exact nb
      have b22 : 0 ≤ (ρ.1 0 22).toInt ∧ (ρ.1 0 22).toInt ≤ 80 := by rw [hT.1]; exact lb
      dsimp only [nm] at h2
      obtain ⟨_, h2⟩ := ckS h2
      obtain ⟨_, h2⟩ := ckS h2
      obtain ⟨ρ1, ρ2, ρ3, u9, r5, hMT, m2, m3, m4⟩ := m_table_in (t := ρ.1 0 9) (a := a) (b := b) t0 t1 b3.1 b3.2 b22.1 b22.2 _ h2
      obtain ⟨⟨w8, w9, w13, w22⟩, wk, wl, wf, _, _, _⟩ := id hMT
      have t6 : σ6.1 1 1 = σ.1 1 1 := by rw [l3 1 1 (by decide) (fun w => absurd w.1 (by decide)), t3]
      have c0 : ∀ k i : Nat, k ≠ 182 → k ≠ 183 → k ≠ 185 → ¬ (k = 1 ∧ i = 1) → (ux_wI σ6 1 1 0).1 k i = σ.1 k i := fun k i h182 h183 h185 h1 => by
        have e : (ux_wI σ6 1 1 0).1 k i = σ6.1 k i := by
          by_cases c : k = 1
          · subst c; rw [wI_i _ _ _ (fun w => h1 ⟨rfl, w⟩)]
          · rw [wI_k _ _ _ _ c]
        rw [e, l3 k i h185 (fun w => h182 w.1), a3 k i h183 (fun w => h182 w.1)]
      have s182 : (ux_wI σ6 1 1 0).1 182 0 = a := by rw [wI_k _ _ _ _ (by decide), l3 182 0 (by decide) (fun w => absurd w.2 (by decide)), a1]
      have s183 : ∀ k : Nat, (ux_wI σ6 1 1 0).1 183 k = σ3.1 183 k := fun k => by rw [wI_k _ _ _ _ (by decide), l3 183 k (by decide) (fun w => absurd w.1 (by decide))]
      have s6 : (ux_wI σ6 1 1 0).1 182 6 = σ.1 1 1 := by rw [wI_k _ _ _ _ (by decide), l1, t3]
      have s185 : ∀ i : Nat, (i : Int) < (σ.1 1 1).toInt → (ux_wI σ6 1 1 0).1 185 i = σ.1 2 i := fun i hi => by
        rw [wI_k _ _ _ _ (by decide), l2 i (by rw [t3]; exact hi), a3 2 i (by decide) (fun w => absurd w.1 (by decide))]
      have e11 : (ux_wI σ6 1 1 0).1 1 1 = 0 := wI_eq _ _ _ _
      generalize ux_wI σ6 1 1 0 = σ8 at c0 s182 s183 s6 s185 e11 f9
      have n9 := i32_nat t0
      have e3 : ρ1.1 0 3 = σ.1 7 5 := by rw [wf 0 3 (fun w => absurd w.2 (by decide)) (by decide) (by decide) (by decide) (by decide) (by decide) (by decide), k1]
      have cw : ((2 ^ (σ.1 7 5).toInt.toNat : Nat) : Int) = (2 : Int) ^ (σ.1 7 5).toInt.toNat := by rw [Int.natCast_pow]; rfl
      have hD : DR (ρ.1 0 9) σ8 ρ1 := by
        refine ⟨⟨t0, t1⟩, by rw [w8, s182], ⟨by rw [s182]; omega, by rw [s182, e3]; omega⟩, by rw [e3]; exact nb, fun k hk ht => ?_⟩
        rw [s182] at ht
        have kn : (k : Int) < (σ.1 7 5).toInt := by
          by_cases c : (k : Int) < (σ.1 7 5).toInt
          · exact c
          · rw [Nat.testBit_lt_two_pow (Nat.lt_of_lt_of_le (show a.toInt.toNat < 2 ^ (σ.1 7 5).toInt.toNat by omega) (Nat.pow_le_pow_right (by decide) (by omega)))] at ht; cases ht
        have w := wk k (by rw [k1]; exact kn)
        have b9 : 0 ≤ (σ.1 9 k).toInt ∧ (σ.1 9 k).toInt ≤ 5 := hI.1 9 k
        refine ⟨?_, ?_, ?_, ?_⟩
        · rw [w.1, s183, a2 k hk, if_pos ht, k2, k5]
        · rw [w.2, c0 9 k (by decide) (by decide) (by decide) (fun w => absurd w.1 (by decide)), k4]
        · rw [c0 9 k (by decide) (by decide) (by decide) (fun w => absurd w.1 (by decide))]; exact b9.1
        · rw [c0 9 k (by decide) (by decide) (by decide) (fun w => absurd w.1 (by decide))]; exact b9.2
      have hwk := work_eq hD (by rw [w13, s6, hT.1]) (by rw [s6]; exact lb) (fun i hi => by rw [s6] at hi; rw [wl i (by rw [hT.1]; exact hi), s185 i hi, hT.2 i]) f9 m2 m3
      have hD8 : D8 σ σ8 a := ⟨c0, s182, fun k hk => by rw [s183, a2 k hk], s6, s185, e11⟩
      refine Or.inr ⟨hs, by omega, σ8, σ10, ρ1, ρ2, ρ3, r9, r5, u9, hD8, hMT, f9, m2, m3, ?_⟩
      rcases hwk with ⟨e9, e5, hPC⟩ | ⟨n9', e5⟩
      · -- a good law: both make a table
        rw [if_pos e9] at h
        rcases m4 with ⟨c5, u2, ρ4, k4, ez⟩ | ⟨c5, _⟩
        · exact Or.inl ⟨hPC, h, u2, ρ4, k4, (Prod.mk.inj ez).2⟩
        · exfalso
          rw [e5] at c5; exact c5 (by decide)
      · -- a fault: neither does
        rw [if_neg n9'] at h
        refine Or.inr ⟨((Prod.mk.inj (Prod.mk.inj (Option.some.inj h)).2).2).symm, ?_⟩
        rcases m4 with ⟨c5, u2, ρ4, k4, ez⟩ | ⟨_, ez⟩
        · exfalso
          have e2 : ρ' = ux_wI ρ4 0 9 (ρ4.1 0 9 + 1) := (Prod.mk.inj ez).2
          have fs := wfX12_sits (m := 512) rfl ρ3 (ρ.1 0 9) (Fr.rf ρ3) _ k4
          have e45 : ρ'.1 0 45 = ρ3.1 0 45 := by rw [e2, wI_i _ _ _ (by decide), fs.at 0 45 0 rfl rfl]
          have b45 : 0 ≤ (ρ'.1 0 45).toInt := (hM'.1 0 45).1
          rw [e5, ← e45] at c5
          have c5 := Int32.lt_iff_toInt_lt.mp c5
          omega
        · exact (Prod.mk.inj ez).2
  · have e1 : σ' = σ := by
      by_cases c : a = 0
      · rw [if_pos c] at h; cases h; rfl
      · rw [if_neg c, if_neg (fun w => hs (si.mp ⟨c, w⟩))] at h; cases h; rfl
    have e2 : ρ' = ρ := by
      by_cases c : a ≤ 0
      · rw [if_pos c] at h2; cases h2; rfl
      · have c' : ¬ a.toInt ≤ (0 : Int32).toInt := fun w => c (Int32.le_iff_toInt_le.mpr w)
        rw [if_neg c, if_neg (fun w => hs ⟨by omega, by rw [← sl]; exact Int32.lt_iff_toInt_lt.mp w⟩)] at h2; cases h2; rfl
    exact Or.inl ⟨e1, e2⟩

/-- table(): the tape and the tables' count -/
theorem st_table (hK : RK σ ρ) (hT : RTp σ ρ) (hN : ρ.1 0 9 = σ.1 0 6) (hI : IvC 0 τ σ) (hM : IvM 0 ρ) (hM' : IvM 0 ρ') (h : fX11_table τ σ a b = some (r, δ, σ')) (h2 : fX12_table ρ a b = some (q, ρ')) : RTp σ' ρ' ∧ ρ'.1 0 9 = σ'.1 0 6 := by
  rcases tab_split hK hT hN hI hM hM' h h2 with ⟨e1, e2⟩ | ⟨hs, h10, σ8, σ10, ρ1, ρ2, ρ3, r9, r5, u, hD, hMT, f9, m2, m3, hh⟩
  · rw [e1, e2]; exact ⟨hT, hN⟩
  obtain ⟨⟨w8, w9, w13, w22⟩, wk, wl, wf, _, _, _⟩ := hMT
  obtain ⟨c0, s182, s183, s6, s185, e11⟩ := hD
  have fw := wfX3_workOut (m := 8388609) rfl τ σ8 (Fr.rf σ8) _ f9
  have fn := wfX12_numbers (m := 1) rfl ρ1 (ρ.1 0 9) (Fr.rf ρ1) _ m2
  have fr := wfX12_reads (m := 513) rfl ρ2 (ρ.1 0 9) (Fr.rf ρ2) _ m3
  have tp : σ10.1 1 1 = 0 := by rw [fw.at 1 1 1 rfl rfl, e11]
  have tb2 : ∀ i : Nat, σ10.1 2 i = σ.1 2 i := fun i => by rw [fw.at 2 i 1 rfl rfl, c0 2 i (by decide) (by decide) (by decide) (fun w => absurd w.1 (by decide))]
  have tc : σ10.1 0 6 = σ.1 0 6 := by rw [fw.at 0 6 24 rfl rfl, c0 0 6 (by decide) (by decide) (by decide) (fun w => absurd w.1 (by decide))]
  have rp : ρ3.1 0 22 = 0 := by rw [fr.at 0 22 1 rfl rfl, fn.at 0 22 1 rfl rfl, w22]
  have rb : ∀ i : Nat, ρ3.1 19 i = ρ.1 19 i := fun i => by rw [fr.at 19 i 1 rfl rfl, fn.at 19 i 1 rfl rfl, wf 19 i (fun w => absurd w.1 (by decide)) (by decide) (by decide) (by decide) (by decide) (by decide) (by decide)]
  have rc : ρ3.1 0 9 = ρ.1 0 9 := by rw [fr.at 0 9 24 rfl rfl, fn.at 0 9 24 rfl rfl, wf 0 9 (fun w => absurd w.2 (by decide)) (by decide) (by decide) (by decide) (by decide) (by decide) (by decide)]
  rcases hh with ⟨_, h9, u2, ρ4, k4, e2⟩ | ⟨e1, e2⟩
  · have ft := tabNew_fr h9
    have fs := wfX12_sits (m := 512) rfl ρ3 (ρ.1 0 9) (Fr.rf ρ3) _ k4
    refine ⟨⟨?_, fun i => ?_⟩, ?_⟩
    · rw [e2, wI_i _ _ _ (by decide), fs.at 0 22 1 rfl rfl, rp, ft.1.at 1 1 1 rfl rfl, tp]
    · rw [e2, wI_k _ _ _ _ (by decide), fs.at 19 i 1 rfl rfl, rb, ft.1.at 2 i 1 rfl rfl, tb2]; exact hT.2 i
    · rw [e2, wI_eq, fs.at 0 9 24 rfl rfl, rc, ft.2, tc, hN]
  · rw [e1, e2]
    exact ⟨⟨by rw [rp, tp], fun i => by rw [rb, tb2]; exact hT.2 i⟩, by rw [rc, tc, hN]⟩
end TABLE
