/-! a table is made: what the draft and the reference's row take of keepers and tape -/
def cntI (kd st : Int32) : Int32 := if kd = 1 ∨ kd = 6 then 2 * st else st
section TAKE
variable {τ : Nat} {t : Int32}
theorem c_counting {σ : S2} {x : Int32} : Pt (fun r => r = cntI (σ.1 8 x.toNatClampNeg) (σ.1 10 x.toNatClampNeg)) (fX2_counting τ σ x) := by
  unfold fX2_counting fX2_counting_0 fX2_counting_21 fX2_counting_26
  have yes : (σ.1 8 x.toNatClampNeg = 1 ∨ σ.1 8 x.toNatClampNeg = 6) → Pt (fun r => r = cntI (σ.1 8 x.toNatClampNeg) (σ.1 10 x.toNatClampNeg)) (if (1 : Int32) = 0 then ck 12 x (nm (σ.1 10 x.toNatClampNeg) (fun v1 => some v1)) else ck 12 x (nm (σ.1 10 x.toNatClampNeg) (fun v2 => some (2 * v2)))) := fun c => pt_if (fun q => absurd q (by decide)) (fun _ => pt_ck (fun _ _ _ => pt_nm (fun w ew => pt_some (by unfold cntI; rw [if_pos c, ew]))))
  refine pt_ck (fun _ _ _ => pt_nm (fun v ev => pt_if (fun c => yes (Or.inl (ev.symm.trans c))) (fun c => pt_ck (fun _ _ _ => pt_nm (fun v2 e2 => pt_if (fun c2 => yes (Or.inr (e2.symm.trans c2))) (fun c2 => pt_if (fun _ => pt_ck (fun _ _ _ => pt_nm (fun w ew => pt_some ?_))) (fun q => absurd rfl q)))))))
  unfold cntI
  rw [if_neg (fun o => o.elim (fun o => c (ev.trans o)) (fun o => c2 (e2.trans o))), ew]
theorem m_counts {ρ : S2} {x : Int32} : Pt (fun r => r = cntI (ρ.1 5 x.toNatClampNeg) (ρ.1 4 x.toNatClampNeg)) (fX12_countsNow ρ x) := by
  unfold fX12_countsNow fX12_countsNow_0 fX12_countsNow_21
  refine pt_ck (fun _ _ _ => pt_nm (fun v ev => pt_if (fun c => pt_ck (fun _ _ _ => pt_nm (fun w ew => pt_some ?_))) (fun c => pt_ck (fun _ _ _ => pt_nm (fun v2 e2 => pt_if (fun c2 => pt_ck (fun _ _ _ => pt_nm (fun w ew => pt_some ?_))) (fun c2 => pt_ck (fun _ _ _ => pt_nm (fun w ew => pt_some ?_))))))))
  · unfold cntI; rw [if_pos (Or.inl (ev.symm.trans c)), ew]
  · unfold cntI; rw [if_pos (Or.inr (e2.symm.trans c2)), ew]
  · unfold cntI; rw [if_neg (fun o => o.elim (fun o => c (ev.trans o)) (fun o => c2 (e2.trans o))), ew]
theorem c_members_7 {σ0 : S2} {x1 : Int32} (b0 : 0 ≤ x1.toInt) (b1 : x1.toInt ≤ 4095) : ∀ (N : Nat) (σ : S2) (x3 : Int32), 0 ≤ x3.toInt → x3.toInt ≤ 12 → (∀ i : Nat, (i : Int) < x3.toInt → x1.toInt.toNat.testBit i = true → σ.1 183 i = cntI (σ0.1 8 i) (σ0.1 10 i)) → (∀ k i : Nat, k ≠ 183 → σ.1 k i = σ0.1 k i) → Pt (fun z : Unit × S2 => (∀ i : Nat, i < 12 → x1.toInt.toNat.testBit i = true → z.2.1 183 i = cntI (σ0.1 8 i) (σ0.1 10 i)) ∧ ∀ k i : Nat, k ≠ 183 → z.2.1 k i = σ0.1 k i) (fX8_takeMembers_7 τ 0 N σ x1 x3) := by
  have z1 := i_1
  have z12 := i_12
  intro N
  induction N with
  | zero => intro σ x3 _ _ _ _; exact pt_none
  | succ N ih =>
    intro σ x3 h0 h12 hd hf
    unfold fX8_takeMembers_7 fX8_takeMembers_36
    refine pt_le (fun h => pt_some ⟨fun i hi => hd i (by omega), hf⟩) (fun h => ?_)
    have e4 : (x3 + 1).toInt = x3.toInt + 1 := by rw [i32_add (by omega) (by omega)]; omega
    have n3 := i32_nat h0
    have eb := bit_sar b0 b1 h0 (by omega)
    have step : ∀ v : Int32, (x1.toInt.toNat.testBit x3.toNatClampNeg = true → v = cntI (σ.1 8 x3.toNatClampNeg) (σ.1 10 x3.toNatClampNeg)) → Pt (fun z : Unit × S2 => (∀ i : Nat, i < 12 → x1.toInt.toNat.testBit i = true → z.2.1 183 i = cntI (σ0.1 8 i) (σ0.1 10 i)) ∧ ∀ k i : Nat, k ≠ 183 → z.2.1 k i = σ0.1 k i) (ck 12 x3 (nm (ux_wI σ (182 + 6 * 0 + 1) x3.toNatClampNeg v) (fun σ1 => nm (x3 + 1) (fun v2 => fX8_takeMembers_7 τ 0 N σ1 x1 v2)))) := fun v hv => by
      refine pt_ck (fun _ _ _ => pt_nm (fun s1 e1 => pt_nm (fun v2 e2 => ?_)))
      subst e1; subst e2
      refine ih _ (x3 + 1) (by omega) (by omega) (fun i hi ht => ?_) (fun k i hk => ?_)
      · show (if i = x3.toNatClampNeg then v else σ.1 183 i) = _
        by_cases c : i = x3.toNatClampNeg
        · rw [if_pos c, c, hv (by rw [← c]; exact ht), hf 8 _ (by decide), hf 10 _ (by decide)]
        · rw [if_neg c]; exact hd i (by omega) ht
      · show (if k = 183 then _ else σ.1 k) i = _
        rw [if_neg hk]; exact hf k i hk
    refine pt_if (fun c => pt_bi c_counting (fun r hr => step r (fun _ => hr))) (fun c => step 0 (fun w => ?_))
    rw [w, if_pos rfl] at eb
    exact absurd (Int32.toInt_inj.mp (by rw [eb]; rfl)) c
theorem c_members {σ : S2} {x1 : Int32} (b0 : 0 ≤ x1.toInt) (b1 : x1.toInt ≤ 4095) : Pt (fun z : Unit × S2 => z.2.1 182 0 = x1 ∧ (∀ i : Nat, i < 12 → x1.toInt.toNat.testBit i = true → z.2.1 183 i = cntI (σ.1 8 i) (σ.1 10 i)) ∧ ∀ k i : Nat, k ≠ 183 → ¬ (k = 182 ∧ i = 0) → z.2.1 k i = σ.1 k i) (fX8_takeMembers τ 0 σ x1) := by
  unfold fX8_takeMembers fX8_takeMembers_0
  refine pt_nm (fun s1 e1 => ?_)
  subst e1
  refine pt_mono (c_members_7 b0 b1 FU _ 0 (by decide) (by decide) (fun i hi => absurd hi (by rw [i_0]; omega)) (fun _ _ _ => rfl)) (fun z hz => ⟨?_, fun i hi ht => ?_, fun k i hk hn => ?_⟩)
  · rw [hz.2 182 0 (by decide)]; rfl
  · exact hz.1 i hi ht
  · rw [hz.2 k i hk]
    by_cases c : k = 182
    · subst c
      show (if i = 0 then x1 else σ.1 182 i) = σ.1 182 i
      rw [if_neg (fun w => hn ⟨rfl, w⟩)]
    · show (if k = 182 then _ else σ.1 k) i = _
      rw [if_neg c]
theorem c_law {σ : S2} {x2 : Int32} (h0 : 0 ≤ x2.toInt) (h1 : x2.toInt ≤ 80) : Pt (fun z : Unit × S2 => z.2.1 182 6 = x2 ∧ (∀ i : Nat, (i : Int) < x2.toInt → z.2.1 185 i = σ.1 2 i) ∧ ∀ k i : Nat, k ≠ 185 → ¬ (k = 182 ∧ i = 6) → z.2.1 k i = σ.1 k i) (fX8_takeLaw τ 0 2 80 σ x2) := by
  have z0 := i_0
  have z80 : (80 : Int32).toInt = 80 := rfl
  have y80 : (Int32.ofNat 80).toInt = 80 := rfl
  have n2 := i32_nat h0
  have eA : (if (Int32.ofNat 80) < x2 then (Int32.ofNat 80) else x2) = x2 := if_neg (fun w => by have := Int32.lt_iff_toInt_lt.mp w; omega)
  have eB : (if 80 < x2 then 80 else x2) = x2 := if_neg (fun w => by have := Int32.lt_iff_toInt_lt.mp w; omega)
  have eC : (if 0 < x2 then x2 else 0) = x2 := by
    by_cases c : 0 < x2
    · rw [if_pos c]
    · rw [if_neg c]
      have : ¬ (0 : Int32).toInt < x2.toInt := fun w => c (Int32.lt_iff_toInt_lt.mpr w)
      exact Int32.toInt_inj.mp (by omega)
  unfold fX8_takeLaw fX8_takeLaw_0
  rw [eA, eB, eC]
  refine pt_nm (fun s1 e1 => pt_cp (fun hc => pt_nm (fun s2 e2 => ?_)))
  subst e1; subst e2
  refine pt_some ⟨rfl, fun i hi => ?_, fun k i hk hn => ?_⟩
  · show (if 0 ≤ i ∧ i < 0 + x2.toNatClampNeg then σ.1 2 (0 + (i - 0)) else σ.1 185 i) = _
    rw [if_pos (by omega), show 0 + (i - 0) = i by omega]
  · show (if k = 185 then _ else (ux_wI σ 182 6 x2).1 k) i = _
    rw [if_neg hk]
    by_cases c : k = 182
    · subst c
      show (if i = 6 then x2 else σ.1 182 i) = σ.1 182 i
      rw [if_neg (fun w => hn ⟨rfl, w⟩)]
    · show (if k = 182 then _ else σ.1 k) i = _
      rw [if_neg c]
end TAKE
section ROWT
variable {t : Int32}
theorem m_table_50 {σ0 : S2} {Q : Int32 × S2 → Prop} (t0 : 0 ≤ t.toInt) (t1 : t.toInt ≤ 10) (n0 : 0 ≤ (σ0.1 0 3).toInt) (n1 : (σ0.1 0 3).toInt ≤ 12) (kx : ∀ σ : S2, (∀ k : Nat, (k : Int) < (σ0.1 0 3).toInt → σ.1 15 (12 * t.toNatClampNeg + k) = cntI (σ0.1 5 k) (σ0.1 4 k) ∧ σ.1 16 (12 * t.toNatClampNeg + k) = σ0.1 3 k) → (∀ k i : Nat, k ≠ 15 → k ≠ 16 → σ.1 k i = σ0.1 k i) → Pt Q (ck 11 t (nm (ux_wI σ 13 t.toNatClampNeg (σ.1 0 22)) (fun σ15 => fX12_table_115 FU σ15 t 0)))) : ∀ (N : Nat) (σ : S2) (x4 : Int32), 0 ≤ x4.toInt → x4.toInt ≤ (σ0.1 0 3).toInt → (∀ k : Nat, (k : Int) < x4.toInt → σ.1 15 (12 * t.toNatClampNeg + k) = cntI (σ0.1 5 k) (σ0.1 4 k) ∧ σ.1 16 (12 * t.toNatClampNeg + k) = σ0.1 3 k) → (∀ k i : Nat, k ≠ 15 → k ≠ 16 → σ.1 k i = σ0.1 k i) → Pt Q (fX12_table_50 N σ t x4) := by
  have z1 := i_1
  have e12 : (12 : Int32).toInt = 12 := rfl
  have nt := i32_nat t0
  intro N
  induction N with
  | zero => intro σ x4 _ _ _ _; exact pt_none
  | succ N ih =>
    intro σ x4 h0 h12 hd hf
    have e3 : σ.1 0 3 = σ0.1 0 3 := hf 0 3 (by decide) (by decide)
    unfold fX12_table_50
    rw [e3]
    refine pt_le (fun h => kx σ (fun k hk => hd k (by omega)) hf) (fun h => ?_)
    have n4 := i32_nat h0
    have e4 : (x4 + 1).toInt = x4.toInt + 1 := by rw [i32_add (by omega) (by omega)]; omega
    have m12 := i32_mulL (a := 12) (b := t) e12 (by omega) (by omega)
    have ix : (12 * t + x4).toInt = 12 * t.toInt + x4.toInt := by rw [i32_add (by omega) (by omega)]; omega
    have nx := i32_nat (i := 12 * t + x4) (by omega)
    have ex : (12 * t + x4).toNatClampNeg = 12 * t.toNatClampNeg + x4.toNatClampNeg := by omega
    refine pt_bi m_counts (fun r hr => pt_ck (fun _ _ _ => pt_nm (fun s1 e1 => pt_ck (fun _ _ _ => pt_nm (fun v19 e19 => pt_ck (fun _ _ _ => pt_nm (fun s2 e2 => pt_nm (fun v21 e21 => ?_))))))))
    subst e1; subst e2; subst e21
    have e19 : v19 = σ.1 3 x4.toNatClampNeg := e19
    rw [ex]
    rw [hf 5 _ (by decide) (by decide), hf 4 _ (by decide) (by decide)] at hr
    rw [hf 3 _ (by decide) (by decide)] at e19
    refine ih _ (x4 + 1) (by omega) (by omega) (fun k hk => ?_) (fun k i h15 h16 => ?_)
    · by_cases c : k = x4.toNatClampNeg
      · subst c
        refine ⟨?_, ?_⟩
        · show (if 12 * t.toNatClampNeg + x4.toNatClampNeg = 12 * t.toNatClampNeg + x4.toNatClampNeg then r else σ.1 15 (12 * t.toNatClampNeg + x4.toNatClampNeg)) = _
          rw [if_pos rfl]; exact hr
        · show (if 12 * t.toNatClampNeg + x4.toNatClampNeg = 12 * t.toNatClampNeg + x4.toNatClampNeg then v19 else σ.1 16 (12 * t.toNatClampNeg + x4.toNatClampNeg)) = _
          rw [if_pos rfl]; exact e19
      · refine ⟨?_, ?_⟩
        · show (if 12 * t.toNatClampNeg + k = 12 * t.toNatClampNeg + x4.toNatClampNeg then r else σ.1 15 (12 * t.toNatClampNeg + k)) = _
          rw [if_neg (by omega)]; exact (hd k (by omega)).1
        · show (if 12 * t.toNatClampNeg + k = 12 * t.toNatClampNeg + x4.toNatClampNeg then v19 else σ.1 16 (12 * t.toNatClampNeg + k)) = _
          rw [if_neg (by omega)]; exact (hd k (by omega)).2
    · show (if k = 16 then _ else if k = 15 then _ else σ.1 k) i = _
      rw [if_neg h16, if_neg h15]; exact hf k i h15 h16
theorem m_table_115 {σ0 : S2} {Q : Int32 × S2 → Prop} (t0 : 0 ≤ t.toInt) (t1 : t.toInt ≤ 10) (n0 : 0 ≤ (σ0.1 0 22).toInt) (n1 : (σ0.1 0 22).toInt ≤ 80) (kx : ∀ σ : S2, (∀ i : Nat, (i : Int) < (σ0.1 0 22).toInt → σ.1 14 (80 * t.toNatClampNeg + i) = σ0.1 19 i) → (∀ k i : Nat, k ≠ 14 → σ.1 k i = σ0.1 k i) → Pt Q (nm (ux_wI σ 0 22 0) (fun σ1 => bs (fX12_numbers σ1 t) (fun r2 σ3 => bs (fX12_reads σ3 t) (fun r5 σ6 => if r5 < 0 then bs (fX12_sits σ6 t) (fun r8 σ9 => nm (ux_wI σ9 0 9 ((σ9.1 0 9) + 1)) (fun σ11 => some (t, σ11))) else some ((-100) - r5, σ6)))))) : ∀ (N : Nat) (σ : S2) (x4 : Int32), 0 ≤ x4.toInt → x4.toInt ≤ (σ0.1 0 22).toInt → (∀ i : Nat, (i : Int) < x4.toInt → σ.1 14 (80 * t.toNatClampNeg + i) = σ0.1 19 i) → (∀ k i : Nat, k ≠ 14 → σ.1 k i = σ0.1 k i) → Pt Q (fX12_table_115 N σ t x4) := by
  have z1 := i_1
  have e80 : (80 : Int32).toInt = 80 := rfl
  have nt := i32_nat t0
  intro N
  induction N with
  | zero => intro σ x4 _ _ _ _; exact pt_none
  | succ N ih =>
    intro σ x4 h0 h12 hd hf
    have e3 : σ.1 0 22 = σ0.1 0 22 := hf 0 22 (by decide)
    unfold fX12_table_115
    rw [e3]
    refine pt_le (fun h => kx σ (fun k hk => hd k (by omega)) hf) (fun h => ?_)
    have n4 := i32_nat h0
    have e4 : (x4 + 1).toInt = x4.toInt + 1 := by rw [i32_add (by omega) (by omega)]; omega
    have m80 := i32_mulL (a := 80) (b := t) e80 (by omega) (by omega)
    have ix : (80 * t + x4).toInt = 80 * t.toInt + x4.toInt := by rw [i32_add (by omega) (by omega)]; omega
    have nx := i32_nat (i := 80 * t + x4) (by omega)
    have ex : (80 * t + x4).toNatClampNeg = 80 * t.toNatClampNeg + x4.toNatClampNeg := by omega
    refine pt_ck (fun _ _ _ => pt_nm (fun v12 e12 => pt_ck (fun _ _ _ => pt_nm (fun s1 e1 => pt_nm (fun v14 e14 => ?_)))))
    subst e1; subst e14
    rw [ex]
    rw [hf 19 _ (by decide)] at e12
    refine ih _ (x4 + 1) (by omega) (by omega) (fun k hk => ?_) (fun k i h14 => ?_)
    · show (if 80 * t.toNatClampNeg + k = 80 * t.toNatClampNeg + x4.toNatClampNeg then v12 else σ.1 14 (80 * t.toNatClampNeg + k)) = _
      by_cases c : k = x4.toNatClampNeg
      · rw [if_pos (by rw [c]), e12, c]
      · rw [if_neg (by omega)]; exact hd k (by omega)
    · show (if k = 14 then _ else σ.1 k) i = _
      rw [if_neg h14]; exact hf k i h14
end ROWT
