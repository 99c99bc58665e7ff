/-! a table is made: what the draft and the reference's row take of keepers and tape -/
def cntI (kd st : Int32) : Int32 := if kd = 1 ∨ kd = 6 then 2 * st else st
section TAKE
variable {τ : Nat} {t : Int32}
theorem c_counting {σ : S2} {x : Int32} : Pt (fun r => r = cntI (σ.1 8 x.toNatClampNeg) (σ.1 10 x.toNatClampNeg)) (fX2_counting τ σ x) := by
  unfold fX2_counting fX2_counting_0 fX2_counting_21 fX2_counting_26
  have yes : (σ.1 8 x.toNatClampNeg = 1 ∨ σ.1 8 x.toNatClampNeg = 6) → Pt (fun r => r = cntI (σ.1 8 x.toNatClampNeg) (σ.1 10 x.toNatClampNeg)) (if (1 : Int32) = 0 then ck 12 x (nm (σ.1 10 x.toNatClampNeg) (fun v1 => some v1)) else ck 12 x (nm (σ.1 10 x.toNatClampNeg) (fun v2 => some (2 * v2)))) := fun c => pt_if (fun q => absurd q (by decide)) (fun _ => pt_ck (fun _ _ _ => pt_nm (fun w ew => pt_some (by unfold cntI; rw [if_pos c, ew]))))
  refine pt_ck (fun _ _ _ => pt_nm (fun v ev => pt_if (fun c => yes (Or.inl (ev.symm.trans c))) (fun c => pt_ck (fun _ _ _ => pt_nm (fun v2 e2 => pt_if (fun c2 => yes (Or.inr (e2.symm.trans c2))) (fun c2 => pt_if (fun _ => pt_ck (fun _ _ _ => pt_nm (fun w ew => pt_some ?_))) (fun q => absurd rfl q)))))))
  unfold cntI
  rw [if_neg (fun o => o.elim (fun o => c (ev.trans o)) (fun o => c2 (e2.trans o))), ew]
theorem m_counts {ρ : S2} {x : Int32} : Pt (fun r => r = cntI (ρ.1 5 x.toNatClampNeg) (ρ.1 4 x.toNatClampNeg)) (fX12_countsNow ρ x) := by
  unfold fX12_countsNow fX12_countsNow_0 fX12_countsNow_21
  refine pt_ck (fun _ _ _ => pt_nm (fun v ev => pt_if (fun c => pt_ck (fun _ _ _ => pt_nm (fun w ew => pt_some ?_))) (fun c => pt_ck (fun _ _ _ => pt_nm (fun v2 e2 => pt_if (fun c2 => pt_ck (fun _ _ _ => pt_nm (fun w ew => pt_some ?_))) (fun c2 => pt_ck (fun _ _ _ => pt_nm (fun w ew => pt_some ?_))))))))
  · unfold cntI; rw [if_pos (Or.inl (ev.symm.trans c)), ew]
  · unfold cntI; rw [if_pos (Or.inr (e2.symm.trans c2)), ew]
  · unfold cntI; rw [if_neg (fun o => o.elim (fun o => c (ev.trans o)) (fun o => c2 (e2.trans o))), ew]
theorem c_members_7 {σ0 : S2} {x1 : Int32} (b0 : 0 ≤ x1.toInt) (b1 : x1.toInt ≤ 4095) : ∀ (N : Nat) (σ : S2) (x3 : Int32), 0 ≤ x3.toInt → x3.toInt ≤ 12 → (∀ i : Nat, (i : Int) < x3.toInt → σ.1 183 i = if x1.toInt.toNat.testBit i then cntI (σ0.1 8 i) (σ0.1 10 i) else 0) → (∀ k i : Nat, k ≠ 183 → σ.1 k i = σ0.1 k i) → Pt (fun z : Unit × S2 => (∀ i : Nat, i < 12 → z.2.1 183 i = if x1.toInt.toNat.testBit i then cntI (σ0.1 8 i) (σ0.1 10 i) else 0) ∧ ∀ k i : Nat, k ≠ 183 → z.2.1 k i = σ0.1 k i) (fX8_takeMembers_7 τ 0 N σ x1 x3) := by
  have z1 := i_1
  have z12 := i_12
  intro N
  induction N with
  | zero => intro σ x3 _ _ _ _; exact pt_none
  | succ N ih =>
    intro σ x3 h0 h12 hd hf
    unfold fX8_takeMembers_7 fX8_takeMembers_36
    refine pt_le (fun h => pt_some ⟨fun i hi => hd i (by omega), hf⟩) (fun h => ?_)
    have e4 : (x3 + 1).toInt = x3.toInt + 1 := by rw [i32_add (by omega) (by omega)]; omega
    have n3 := i32_nat h0
    have eb := bit_sar b0 b1 h0 (by omega)
    have step : ∀ v : Int32, v = (if x1.toInt.toNat.testBit x3.toNatClampNeg then cntI (σ0.1 8 x3.toNatClampNeg) (σ0.1 10 x3.toNatClampNeg) else 0) → Pt (fun z : Unit × S2 => (∀ i : Nat, i < 12 → z.2.1 183 i = if x1.toInt.toNat.testBit i then cntI (σ0.1 8 i) (σ0.1 10 i) else 0) ∧ ∀ k i : Nat, k ≠ 183 → z.2.1 k i = σ0.1 k i) (ck 12 x3 (nm (ux_wI σ (182 + 6 * 0 + 1) x3.toNatClampNeg v) (fun σ1 => nm (x3 + 1) (fun v2 => fX8_takeMembers_7 τ 0 N σ1 x1 v2)))) := fun v hv => by
      refine pt_ck (fun _ _ _ => pt_nm (fun s1 e1 => pt_nm (fun v2 e2 => ?_)))
      have e1 : s1 = ux_wI σ 183 x3.toNatClampNeg v := e1
      rw [e2]
      refine ih s1 (x3 + 1) (by omega) (by omega) (fun i hi => ?_) (fun k i hk => by rw [e1, wI_k _ _ _ _ hk]; exact hf k i hk)
      by_cases c : i = x3.toNatClampNeg
      · rw [c, e1, wI_eq, hv]
      · rw [e1, wI_i _ _ _ c]; exact hd i (by omega)
    refine pt_if (fun c => pt_bi c_counting (fun r hr => step r ?_)) (fun c => step 0 ?_)
    · have q : x1.toInt.toNat.testBit x3.toNatClampNeg = true := by
        cases w : x1.toInt.toNat.testBit x3.toNatClampNeg
        · rw [w, if_neg (by decide)] at eb
          rw [c] at eb; exact absurd eb (by decide)
        · rfl
      rw [q, if_pos rfl, hr, hf 8 _ (by decide), hf 10 _ (by decide)]
    · have q : x1.toInt.toNat.testBit x3.toNatClampNeg = false := by
        cases w : x1.toInt.toNat.testBit x3.toNatClampNeg
        · rfl
        · rw [w, if_pos rfl] at eb
          exact absurd (Int32.toInt_inj.mp (by rw [eb]; rfl)) c
      rw [q]; rfl
theorem c_members {σ : S2} {x1 : Int32} (b0 : 0 ≤ x1.toInt) (b1 : x1.toInt ≤ 4095) : Pt (fun z : Unit × S2 => z.2.1 182 0 = x1 ∧ (∀ i : Nat, i < 12 → z.2.1 183 i = if x1.toInt.toNat.testBit i then cntI (σ.1 8 i) (σ.1 10 i) else 0) ∧ ∀ k i : Nat, k ≠ 183 → ¬ (k = 182 ∧ i = 0) → z.2.1 k i = σ.1 k i) (fX8_takeMembers τ 0 σ x1) := by
  unfold fX8_takeMembers fX8_takeMembers_0
  refine pt_nm (fun s1 e1 => ?_)
  have e1 : s1 = ux_wI σ 182 0 x1 := e1
  have o : ∀ k i : Nat, ¬ (k = 182 ∧ i = 0) → s1.1 k i = σ.1 k i := fun k i hn => by
    rw [e1]
    by_cases c : k = 182
    · subst c
      rw [wI_i _ _ _ (fun w => hn ⟨rfl, w⟩)]
    · rw [wI_k _ _ _ _ c]
  refine pt_mono (c_members_7 (σ0 := s1) b0 b1 FU s1 0 (by decide) (by decide) (fun i hi => absurd hi (by rw [i_0]; omega)) (fun _ _ _ => rfl)) (fun z hz => ⟨?_, fun i hi => ?_, fun k i hk hn => ?_⟩)
  · rw [hz.2 182 0 (by decide), e1, wI_eq]
  · rw [hz.1 i hi, o 8 i (fun w => absurd w.1 (by decide)), o 10 i (fun w => absurd w.1 (by decide))]
  · rw [hz.2 k i hk, o k i hn]
theorem c_law {σ : S2} {x2 : Int32} (h0 : 0 ≤ x2.toInt) (h1 : x2.toInt ≤ 80) : Pt (fun z : Unit × S2 => z.2.1 182 6 = x2 ∧ (∀ i : Nat, (i : Int) < x2.toInt → z.2.1 185 i = σ.1 2 i) ∧ ∀ k i : Nat, k ≠ 185 → ¬ (k = 182 ∧ i = 6) → z.2.1 k i = σ.1 k i) (fX8_takeLaw τ 0 2 80 σ x2) := by
  have z0 := i_0
  have z80 : (80 : Int32).toInt = 80 := rfl
  have y80 : (Int32.ofNat 80).toInt = 80 := rfl
  have n2 := i32_nat h0
  have eA : (if (Int32.ofNat 80) < x2 then (Int32.ofNat 80) else x2) = x2 := if_neg (fun w => by have := Int32.lt_iff_toInt_lt.mp w; omega)
  have eB : (if 80 < x2 then 80 else x2) = x2 := if_neg (fun w => by have := Int32.lt_iff_toInt_lt.mp w; omega)
  have eC : (if 0 < x2 then x2 else 0) = x2 := by
    by_cases c : 0 < x2
    · rw [if_pos c]
    · rw [if_neg c]
      have : ¬ (0 : Int32).toInt < x2.toInt := fun w => c (Int32.lt_iff_toInt_lt.mpr w)
      exact Int32.toInt_inj.mp (by omega)
  unfold fX8_takeLaw fX8_takeLaw_0
  rw [eA, eB, eC]
  refine pt_nm (fun s1 e1 => pt_cp (fun hc => pt_nm (fun s2 e2 => ?_)))
  subst e1; subst e2
  refine pt_some ⟨rfl, fun i hi => ?_, fun k i hk hn => ?_⟩
  · show (if 0 ≤ i ∧ i < 0 + x2.toNatClampNeg then σ.1 2 (0 + (i - 0)) else σ.1 185 i) = _
    rw [if_pos (by omega), show 0 + (i - 0) = i by omega]
  · show (if k = 185 then _ else (ux_wI σ 182 6 x2).1 k) i = _
    rw [if_neg hk]
    by_cases c : k = 182
    · subst c
      show (if i = 6 then x2 else σ.1 182 i) = σ.1 182 i
      rw [if_neg (fun w => hn ⟨rfl, w⟩)]
    · show (if k = 182 then _ else σ.1 k) i = _
      rw [if_neg c]
end TAKE
section ROWT
variable {t : Int32}
/-- what table() lays into row t of the reference, of the set, the turn, the keepers and the tape; all else is as it was -/
def MT (ρ ρ1 : S2) (t a b : Int32) : Prop := (ρ1.1 8 t.toNatClampNeg = a ∧ ρ1.1 9 t.toNatClampNeg = b ∧ ρ1.1 13 t.toNatClampNeg = ρ.1 0 22 ∧ ρ1.1 0 22 = 0) ∧ (∀ k : Nat, (k : Int) < (ρ.1 0 3).toInt → ρ1.1 15 (12 * t.toNatClampNeg + k) = cntI (ρ.1 5 k) (ρ.1 4 k) ∧ ρ1.1 16 (12 * t.toNatClampNeg + k) = ρ.1 3 k) ∧ (∀ i : Nat, (i : Int) < (ρ.1 0 22).toInt → ρ1.1 14 (80 * t.toNatClampNeg + i) = ρ.1 19 i) ∧ (∀ k i : Nat, ¬ (k = 0 ∧ i = 22) → k ≠ 8 → k ≠ 9 → k ≠ 13 → k ≠ 14 → k ≠ 15 → k ≠ 16 → ρ1.1 k i = ρ.1 k i) ∧ (∀ k i : Nat, (k = 8 ∨ k = 9 ∨ k = 13) → i ≠ t.toNatClampNeg → ρ1.1 k i = ρ.1 k i) ∧ (∀ i : Nat, i < 80 * t.toNatClampNeg ∨ 80 * t.toNatClampNeg + 80 ≤ i → ρ1.1 14 i = ρ.1 14 i) ∧ ∀ k i : Nat, (k = 15 ∨ k = 16) → (i < 12 * t.toNatClampNeg ∨ 12 * t.toNatClampNeg + 12 ≤ i) → ρ1.1 k i = ρ.1 k i
theorem m_table_50 {σ0 : S2} {Q : Int32 × S2 → Prop} (t0 : 0 ≤ t.toInt) (t1 : t.toInt ≤ 10) (n0 : 0 ≤ (σ0.1 0 3).toInt) (n1 : (σ0.1 0 3).toInt ≤ 12) (kx : ∀ σ : S2, (∀ k : Nat, (k : Int) < (σ0.1 0 3).toInt → σ.1 15 (12 * t.toNatClampNeg + k) = cntI (σ0.1 5 k) (σ0.1 4 k) ∧ σ.1 16 (12 * t.toNatClampNeg + k) = σ0.1 3 k) → (∀ k i : Nat, k ≠ 15 → k ≠ 16 → σ.1 k i = σ0.1 k i) → (∀ k i : Nat, (k = 15 ∨ k = 16) → (i < 12 * t.toNatClampNeg ∨ 12 * t.toNatClampNeg + 12 ≤ i) → σ.1 k i = σ0.1 k i) → Pt Q (ck 11 t (nm (ux_wI σ 13 t.toNatClampNeg (σ.1 0 22)) (fun σ15 => fX12_table_115 FU σ15 t 0)))) : ∀ (N : Nat) (σ : S2) (x4 : Int32), 0 ≤ x4.toInt → x4.toInt ≤ (σ0.1 0 3).toInt → (∀ k : Nat, (k : Int) < x4.toInt → σ.1 15 (12 * t.toNatClampNeg + k) = cntI (σ0.1 5 k) (σ0.1 4 k) ∧ σ.1 16 (12 * t.toNatClampNeg + k) = σ0.1 3 k) → (∀ k i : Nat, k ≠ 15 → k ≠ 16 → σ.1 k i = σ0.1 k i) → (∀ k i : Nat, (k = 15 ∨ k = 16) → (i < 12 * t.toNatClampNeg ∨ 12 * t.toNatClampNeg + 12 ≤ i) → σ.1 k i = σ0.1 k i) → Pt Q (fX12_table_50 N σ t x4) := by
  have z1 := i_1
  have e12 : (12 : Int32).toInt = 12 := rfl
  have nt := i32_nat t0
  intro N
  induction N with
  | zero => intro σ x4 _ _ _ _ _; exact pt_none
  | succ N ih =>
    intro σ x4 h0 h12 hd hf hg
    have e3 : σ.1 0 3 = σ0.1 0 3 := hf 0 3 (by decide) (by decide)
    unfold fX12_table_50
    rw [e3]
    refine pt_le (fun h => kx σ (fun k hk => hd k (by omega)) hf hg) (fun h => ?_)
    have n4 := i32_nat h0
    have e4 : (x4 + 1).toInt = x4.toInt + 1 := by rw [i32_add (by omega) (by omega)]; omega
    have m12 := i32_mulL (a := 12) (b := t) e12 (by omega) (by omega)
    have ix : (12 * t + x4).toInt = 12 * t.toInt + x4.toInt := by rw [i32_add (by omega) (by omega)]; omega
    have nx := i32_nat (i := 12 * t + x4) (by omega)
    have ex : (12 * t + x4).toNatClampNeg = 12 * t.toNatClampNeg + x4.toNatClampNeg := by omega
    refine pt_bi m_counts (fun r hr => pt_ck (fun _ _ _ => pt_nm (fun s1 e1 => pt_ck (fun _ _ _ => pt_nm (fun v19 e19 => pt_ck (fun _ _ _ => pt_nm (fun s2 e2 => pt_nm (fun v21 e21 => ?_))))))))
    rw [ex] at e1 e2
    have g19 : v19 = σ0.1 3 x4.toNatClampNeg := by rw [e19, e1, wI_k _ _ _ _ (by decide), hf 3 _ (by decide) (by decide)]
    rw [hf 5 _ (by decide) (by decide), hf 4 _ (by decide) (by decide)] at hr
    rw [e21]
    have o : ∀ k i : Nat, k ≠ 15 → k ≠ 16 → s2.1 k i = σ.1 k i := fun k i h15 h16 => by rw [e2, wI_k _ _ _ _ h16, e1, wI_k _ _ _ _ h15]
    have o2 : ∀ k i : Nat, (k = 15 ∨ k = 16) → i ≠ 12 * t.toNatClampNeg + x4.toNatClampNeg → s2.1 k i = σ.1 k i := fun k i hk hi => by
      rcases hk with rfl | rfl
      · rw [e2, wI_k _ _ _ _ (by decide), e1, wI_i _ _ _ hi]
      · rw [e2, wI_i _ _ _ hi, e1, wI_k _ _ _ _ (by decide)]
    refine ih s2 (x4 + 1) (by omega) (by omega) (fun k hk => ?_) (fun k i h15 h16 => (o k i h15 h16).trans (hf k i h15 h16)) (fun k i hk hi => (o2 k i hk (by omega)).trans (hg k i hk hi))
    by_cases c : k = x4.toNatClampNeg
    · subst c
      refine ⟨?_, ?_⟩
      · rw [e2, wI_k _ _ _ _ (by decide), e1, wI_eq]; exact hr
      · rw [e2, wI_eq]; exact g19
    · rw [o2 15 _ (Or.inl rfl) (by omega), o2 16 _ (Or.inr rfl) (by omega)]
      exact hd k (by omega)
theorem m_table_115 {σ0 : S2} {Q : Int32 × S2 → Prop} (t0 : 0 ≤ t.toInt) (t1 : t.toInt ≤ 10) (n0 : 0 ≤ (σ0.1 0 22).toInt) (n1 : (σ0.1 0 22).toInt ≤ 80) (kx : ∀ σ : S2, (∀ i : Nat, (i : Int) < (σ0.1 0 22).toInt → σ.1 14 (80 * t.toNatClampNeg + i) = σ0.1 19 i) → (∀ k i : Nat, k ≠ 14 → σ.1 k i = σ0.1 k i) → (∀ i : Nat, i < 80 * t.toNatClampNeg ∨ 80 * t.toNatClampNeg + 80 ≤ i → σ.1 14 i = σ0.1 14 i) → Pt Q (nm (ux_wI σ 0 22 0) (fun σ1 => bs (fX12_numbers σ1 t) (fun r2 σ3 => bs (fX12_reads σ3 t) (fun r5 σ6 => if r5 < 0 then bs (fX12_sits σ6 t) (fun r8 σ9 => nm (ux_wI σ9 0 9 ((σ9.1 0 9) + 1)) (fun σ11 => some (t, σ11))) else some ((-100) - r5, σ6)))))) : ∀ (N : Nat) (σ : S2) (x4 : Int32), 0 ≤ x4.toInt → x4.toInt ≤ (σ0.1 0 22).toInt → (∀ i : Nat, (i : Int) < x4.toInt → σ.1 14 (80 * t.toNatClampNeg + i) = σ0.1 19 i) → (∀ k i : Nat, k ≠ 14 → σ.1 k i = σ0.1 k i) → (∀ i : Nat, i < 80 * t.toNatClampNeg ∨ 80 * t.toNatClampNeg + 80 ≤ i → σ.1 14 i = σ0.1 14 i) → Pt Q (fX12_table_115 N σ t x4) := by
  have z1 := i_1
  have e80 : (80 : Int32).toInt = 80 := rfl
  have nt := i32_nat t0
  intro N
  induction N with
  | zero => intro σ x4 _ _ _ _ _; exact pt_none
  | succ N ih =>
    intro σ x4 h0 h12 hd hf hg
    have e3 : σ.1 0 22 = σ0.1 0 22 := hf 0 22 (by decide)
    unfold fX12_table_115
    rw [e3]
    refine pt_le (fun h => kx σ (fun k hk => hd k (by omega)) hf hg) (fun h => ?_)
    have n4 := i32_nat h0
    have e4 : (x4 + 1).toInt = x4.toInt + 1 := by rw [i32_add (by omega) (by omega)]; omega
    have m80 := i32_mulL (a := 80) (b := t) e80 (by omega) (by omega)
    have ix : (80 * t + x4).toInt = 80 * t.toInt + x4.toInt := by rw [i32_add (by omega) (by omega)]; omega
    have nx := i32_nat (i := 80 * t + x4) (by omega)
    have ex : (80 * t + x4).toNatClampNeg = 80 * t.toNatClampNeg + x4.toNatClampNeg := by omega
    refine pt_ck (fun _ _ _ => pt_nm (fun v12 e12 => pt_ck (fun _ _ _ => pt_nm (fun s1 e1 => pt_nm (fun v14 e14 => ?_)))))
    rw [ex] at e1
    rw [hf 19 _ (by decide)] at e12
    rw [e14]
    refine ih s1 (x4 + 1) (by omega) (by omega) (fun k hk => ?_) (fun k i h14 => ?_) (fun i hi => ?_)
    · by_cases c : k = x4.toNatClampNeg
      · rw [c, e1, wI_eq]; exact e12
      · rw [e1, wI_i _ _ _ (by omega)]; exact hd k (by omega)
    · rw [e1, wI_k _ _ _ _ h14]; exact hf k i h14
    · rw [e1, wI_i _ _ _ (by omega)]; exact hg i hi
/-- the reference's table(), from the row's first place on -/
theorem m_table_in {ρ : S2} {a b : Int32} (t0 : 0 ≤ t.toInt) (t1 : t.toInt ≤ 10) (n0 : 0 ≤ (ρ.1 0 3).toInt) (n1 : (ρ.1 0 3).toInt ≤ 12) (l0 : 0 ≤ (ρ.1 0 22).toInt) (l1 : (ρ.1 0 22).toInt ≤ 80) : Pt (fun z : Int32 × S2 => ∃ (ρ1 ρ2 ρ3 : S2) (u : Unit) (r5 : Int32), MT ρ ρ1 t a b ∧ fX12_numbers ρ1 t = some (u, ρ2) ∧ fX12_reads ρ2 t = some (r5, ρ3) ∧ ((r5 < 0 ∧ ∃ (u2 : Unit) (ρ4 : S2), fX12_sits ρ3 t = some (u2, ρ4) ∧ z = (t, ux_wI ρ4 0 9 (ρ4.1 0 9 + 1))) ∨ (¬ r5 < 0 ∧ z = ((-100) - r5, ρ3)))) (fX12_table_50 FU (ux_wI (ux_wI ρ 8 t.toNatClampNeg a) 9 t.toNatClampNeg b) t 0) := by
  have z0 := i_0
  have g : ∀ k i : Nat, k ≠ 8 → k ≠ 9 → (ux_wI (ux_wI ρ 8 t.toNatClampNeg a) 9 t.toNatClampNeg b).1 k i = ρ.1 k i := fun k i h8 h9 => by rw [wI_k _ _ _ _ h9, wI_k _ _ _ _ h8]
  have g8 : (ux_wI (ux_wI ρ 8 t.toNatClampNeg a) 9 t.toNatClampNeg b).1 8 t.toNatClampNeg = a := by rw [wI_k _ _ _ _ (by decide), wI_eq]
  have g9 : (ux_wI (ux_wI ρ 8 t.toNatClampNeg a) 9 t.toNatClampNeg b).1 9 t.toNatClampNeg = b := wI_eq _ _ _ _
  have gr : ∀ k i : Nat, (k = 8 ∨ k = 9) → i ≠ t.toNatClampNeg → (ux_wI (ux_wI ρ 8 t.toNatClampNeg a) 9 t.toNatClampNeg b).1 k i = ρ.1 k i := fun k i hk hi => by
    rcases hk with rfl | rfl
    · rw [wI_k _ _ _ _ (by decide), wI_i _ _ _ hi]
    · rw [wI_i _ _ _ hi, wI_k _ _ _ _ (by decide)]
  generalize ux_wI (ux_wI ρ 8 t.toNatClampNeg a) 9 t.toNatClampNeg b = s0 at g g8 g9 gr ⊢
  have e3 : s0.1 0 3 = ρ.1 0 3 := g 0 3 (by decide) (by decide)
  have e22 : s0.1 0 22 = ρ.1 0 22 := g 0 22 (by decide) (by decide)
  refine m_table_50 t0 t1 (by rw [e3]; exact n0) (by rw [e3]; exact n1) (fun s1 ha hb hc => ?_) FU s0 0 (by rw [z0]; omega) (by rw [e3, z0]; exact n0) (fun k hk => absurd hk (by rw [z0]; omega)) (fun _ _ _ _ => rfl) (fun _ _ _ _ => rfl)
  refine pt_ck (fun _ _ _ => pt_nm (fun s2 e2 => ?_))
  have f2 : ∀ k i : Nat, k ≠ 13 → s2.1 k i = s1.1 k i := fun k i hk => by rw [e2, wI_k _ _ _ _ hk]
  have f13 : s2.1 13 t.toNatClampNeg = s1.1 0 22 := by rw [e2, wI_eq]
  have r13 : ∀ i : Nat, i ≠ t.toNatClampNeg → s2.1 13 i = s1.1 13 i := fun i hi => by rw [e2, wI_i _ _ _ hi]
  have d22 : s2.1 0 22 = ρ.1 0 22 := by rw [f2 _ _ (by decide), hb _ _ (by decide) (by decide), e22]
  refine m_table_115 t0 t1 (by rw [d22]; exact l0) (by rw [d22]; exact l1) (fun s3 hd he hf => ?_) FU s2 0 (by rw [z0]; omega) (by rw [d22, z0]; exact l0) (fun k hk => absurd hk (by rw [z0]; omega)) (fun _ _ _ => rfl) (fun _ _ => rfl)
  refine pt_nm (fun s4 e4 => ?_)
  have f4 : ∀ k i : Nat, ¬ (k = 0 ∧ i = 22) → s4.1 k i = s3.1 k i := fun k i hk => by
    rw [e4]
    by_cases c : k = 0
    · subst c; rw [wI_i _ _ _ (fun w => hk ⟨rfl, w⟩)]
    · rw [wI_k _ _ _ _ c]
  have hMT : MT ρ s4 t a b := by
    refine ⟨⟨?_, ?_, ?_, ?_⟩, fun k hk => ⟨?_, ?_⟩, fun i hi => ?_, fun k i h0 h8 h9 h13 h14 h15 h16 => ?_, fun k i hk hi => ?_, fun i hi => ?_, fun k i hk hi => ?_⟩
    · rw [f4 _ _ (fun w => absurd w.1 (by decide)), he _ _ (by decide), f2 _ _ (by decide), hb _ _ (by decide) (by decide), g8]
    · rw [f4 _ _ (fun w => absurd w.1 (by decide)), he _ _ (by decide), f2 _ _ (by decide), hb _ _ (by decide) (by decide), g9]
    · rw [f4 _ _ (fun w => absurd w.1 (by decide)), he _ _ (by decide), f13, hb _ _ (by decide) (by decide), e22]
    · rw [e4, wI_eq]
    · rw [f4 _ _ (fun w => absurd w.1 (by decide)), he _ _ (by decide), f2 _ _ (by decide), (ha k (by rw [e3]; exact hk)).1, g 5 _ (by decide) (by decide), g 4 _ (by decide) (by decide)]
    · rw [f4 _ _ (fun w => absurd w.1 (by decide)), he _ _ (by decide), f2 _ _ (by decide), (ha k (by rw [e3]; exact hk)).2, g 3 _ (by decide) (by decide)]
    · rw [f4 _ _ (fun w => absurd w.1 (by decide)), hd i (by rw [d22]; exact hi), f2 _ _ (by decide), hb _ _ (by decide) (by decide), g 19 _ (by decide) (by decide)]
    · rw [f4 _ _ h0, he _ _ h14, f2 _ _ h13, hb _ _ h15 h16, g _ _ h8 h9]
    · rcases hk with rfl | rfl | rfl
      · rw [f4 _ _ (fun w => absurd w.1 (by decide)), he _ _ (by decide), f2 _ _ (by decide), hb _ _ (by decide) (by decide), gr _ _ (Or.inl rfl) hi]
      · rw [f4 _ _ (fun w => absurd w.1 (by decide)), he _ _ (by decide), f2 _ _ (by decide), hb _ _ (by decide) (by decide), gr _ _ (Or.inr rfl) hi]
      · rw [f4 _ _ (fun w => absurd w.1 (by decide)), he _ _ (by decide), r13 _ hi, hb _ _ (by decide) (by decide), g _ _ (by decide) (by decide)]
    · rw [f4 _ _ (fun w => absurd w.1 (by decide)), hf i hi, f2 _ _ (by decide), hb _ _ (by decide) (by decide), g _ _ (by decide) (by decide)]
    · have k14 : k ≠ 14 := by rcases hk with rfl | rfl <;> decide
      have k13 : k ≠ 13 := by rcases hk with rfl | rfl <;> decide
      have k0 : k ≠ 0 := by rcases hk with rfl | rfl <;> decide
      rw [f4 _ _ (fun w => k0 w.1), he _ _ k14, f2 _ _ k13, hc k i hk hi, g _ _ (by rcases hk with rfl | rfl <;> decide) (by rcases hk with rfl | rfl <;> decide)]
  refine pt_bs (P := fun z => fX12_numbers s4 t = some z) (fun z hz => hz) (fun u ρ2 k2 => ?_)
  refine pt_bs (P := fun z => fX12_reads ρ2 t = some z) (fun z hz => hz) (fun r5 ρ3 k3 => ?_)
  refine pt_if (fun c => ?_) (fun c => pt_some ⟨s4, ρ2, ρ3, u, r5, hMT, k2, k3, Or.inr ⟨c, rfl⟩⟩)
  refine pt_bs (P := fun z => fX12_sits ρ3 t = some z) (fun z hz => hz) (fun u2 ρ4 k4 => pt_nm (fun s5 e5 => pt_some ?_))
  exact ⟨s4, ρ2, ρ3, u, r5, hMT, k2, k3, Or.inl ⟨c, u2, ρ4, k4, by rw [e5]⟩⟩
end ROWT
