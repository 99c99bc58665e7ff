/-! workOut touches the law's scratch and copies, streets and way of the draft alone; takeAll -/
section DU
noncomputable def DU (σ0 σ : S2) : Prop := ∀ k i : Nat, ((k = 182 ∧ (i = 0 ∨ i = 6)) ∨ k = 183 ∨ k = 185) → σ.1 k i = σ0.1 k i
variable {τ : Nat} {σ0 : S2}
theorem DU.rf (σ : S2) : DU σ σ := fun _ _ _ => rfl
theorem DU.w {σ : S2} (h : DU σ0 σ) (i : Nat) (x : Int32) : DU σ0 (ux_wI σ 13 i x) := fun k j hk => by
  rw [wI_k _ _ _ _ (show k ≠ 13 by omega)]; exact h k j hk
theorem DU.d {σ : S2} (h : DU σ0 σ) {i : Nat} (x : Int32) (hi : i = 2 ∨ i = 3 ∨ i = 4) : DU σ0 (ux_wI σ 182 i x) := fun k j hk => by
  by_cases q : k = 182
  · subst q
    rw [wI_i _ _ _ (show j ≠ i by omega)]; exact h _ j hk
  · rw [wI_k _ _ _ _ q]; exact h k j hk
theorem DU.fr {σ σ' : S2} {m : Nat} (h : DU σ0 σ) (hf : Fr gC m σ σ') (e : m.testBit 23 = false) : DU σ0 σ' := fun k j hk => by
  have w : σ'.1 k j = σ.1 k j := by
    rcases hk with ⟨rfl, rfl | rfl⟩ | rfl | rfl <;> exact hf.at _ _ 23 rfl e
  rw [w]; exact h k j hk
theorem du_part {σ : S2} {x2 : Int32} (h : DU σ0 σ) : Pt (fun z : Int32 × S2 => DU σ0 z.2) (fX3_readPart τ σ x2) := by
  have g50 : Pt (fun z : Int32 × S2 => DU σ0 z.2) (fX3_readPart_50 τ σ) := by
    unfold fX3_readPart_50
    exact pt_nm (fun v e => pt_some (by rw [e]; exact h.w _ _))
  have gsum : ∀ (σ5 : S2) (i : Nat) (K : Int32), (i = 2 ∨ i = 3 ∨ i = 4) → DU σ0 σ5 → Pt (fun z : Int32 × S2 => DU σ0 z.2) (bs (fX3_readSum τ σ5 0) (fun r16 σ17 => bi (fX3_heldWithin τ σ17 r16) (fun r19 => nm (ux_wI σ17 182 i r19) (fun σ21 => some (K, σ21))))) := fun σ5 i K hi h5 => by
    refine pt_bs (pt_fr (wfX3_readSum (m := 1) rfl τ σ5 0 (Fr.rf σ5))) (fun r16 σ17 h17 => pt_bi (P := fun _ => True) (fun _ _ => trivial) (fun r19 _ => pt_nm (fun v e => pt_some ?_)))
    have h17 : DU σ0 σ17 := h5.fr h17 rfl
    show DU σ0 v
    rw [e]; exact h17.d _ hi
  have g36 : ∀ x3 s0 : Int32, Pt (fun z : Int32 × S2 => DU σ0 z.2) (fX3_readPart_36 τ σ x2 x3 s0) := fun x3 s0 => by
    unfold fX3_readPart_36
    refine pt_if (fun _ => g50) (fun _ => pt_if (fun _ => pt_nm (fun s2 e2 => pt_bi (P := fun _ => True) (fun _ _ => trivial) (fun r3 _ => ?_))) (fun _ => g50))
    have h2 : DU σ0 s2 := by rw [e2]; exact h.w _ _
    refine pt_if (fun _ => pt_nm (fun s5 e5 => ?_)) (fun _ => pt_nm (fun s22 e22 => pt_some (by rw [e22]; exact h2.w _ _)))
    have h5 : DU σ0 s5 := by rw [e5]; exact h2.w _ _
    refine pt_if (fun _ => gsum s5 2 s0 (Or.inl rfl) h5) (fun _ => pt_if (fun _ => gsum s5 3 s0 (Or.inr (Or.inl rfl)) h5) (fun _ => ?_))
    unfold fX3_readWay fX3_readWay_0 fX3_readWay_17
    refine pt_bs (P := fun z => DU σ0 z.2) (pt_bi (P := fun _ => True) (fun _ _ => trivial) (fun r2 _ => pt_nm (fun v4 _ => pt_if (fun _ => pt_nm (fun s e => pt_some (by rw [e]; exact h5.w _ _))) (fun _ => pt_if (fun _ => pt_nm (fun s e => pt_some (by rw [e]; exact h5.w _ _))) (fun _ => pt_nm (fun s e => pt_some (by rw [e]; exact h5.w _ _))))))) (fun r6 σ7 h7 => pt_nm (fun s9 e9 => pt_some ?_))
    have h7 : DU σ0 σ7 := h7
    show DU σ0 s9
    rw [e9]; exact h7.d _ (Or.inr (Or.inr rfl))
  unfold fX3_readPart fX3_readPart_0
  exact pt_bi (P := fun _ => True) (fun _ _ => trivial) (fun r23 _ => pt_if (fun _ => g36 _ _) (fun _ => pt_if (fun _ => g36 _ _) (fun _ => pt_if (fun _ => g36 _ _) (fun _ => g36 _ _))))
theorem du_52 : ∀ (N : Nat) (σ : S2) (x3 x4 : Int32), DU σ0 σ → Pt (fun z : Int32 × S2 => DU σ0 z.2) (fX3_workOut_52 τ N σ x3 x4) := by
  intro N
  induction N with
  | zero => intro σ x3 x4 _; exact pt_none
  | succ N ih =>
    intro σ x3 x4 h
    unfold fX3_workOut_52 fX3_workOut_127 fX3_workOut_135 fX3_workOut_141
    refine pt_if (fun _ => pt_some h) (fun _ => pt_if (fun _ => pt_bs (du_part h) (fun r3 σ4 h4 => pt_nm (fun v6 _ => ?_))) (fun _ => pt_some h))
    have h4 : DU σ0 σ4 := h4
    refine pt_if (fun _ => pt_if (fun _ => pt_bi (P := fun _ => True) (fun _ _ => trivial) (fun r7 _ => ?_)) (fun _ => pt_some h4)) (fun _ => pt_some h4)
    refine pt_if (fun _ => pt_if (fun _ => pt_nm (fun s e => pt_nm (fun v _ => ih s _ _ (by rw [e]; exact h4.w _ _)))) (fun _ => pt_nm (fun s e => pt_nm (fun v _ => ih s _ _ (by rw [e]; exact h4.w _ _))))) (fun _ => pt_nm (fun s e => pt_nm (fun v _ => ih s _ _ (by rw [e]; exact h4.w _ _))))
theorem du_work {σ : S2} : Pt (fun z : Int32 × S2 => DU σ z.2) (fX3_workOut τ σ) := by
  unfold fX3_workOut fX3_workOut_0
  refine pt_nm (fun s1 e1 => pt_nm (fun s2 e2 => pt_nm (fun s3 e3 => pt_nm (fun s4 e4 => ?_))))
  have h1 : DU σ s1 := fun k j hk => by
    rw [e1]
    show (if k = 13 then _ else σ.1 k) j = _
    rw [if_neg (by omega)]
  have h4 : DU σ s4 := by rw [e4, e3, e2]; exact ((h1.w _ _).w _ _).w _ _
  refine pt_bs (pt_fr (wfX3_look (m := 1) rfl τ s4 (Fr.rf s4))) (fun r14 σ15 h15 => pt_nm (fun s17 e17 => pt_nm (fun s18 e18 => pt_nm (fun s19 e19 => ?_))))
  have h15 : DU σ σ15 := h4.fr h15 rfl
  exact du_52 FU s19 0 0 (by rw [e19, e18, e17]; exact ((h15.d _ (by decide)).d _ (by decide)).d _ (by decide))
end DU
section TALL
variable {τ b : Nat}
/-- takeAll copies the block b1 into the block b -/
theorem take_all {σ : S2} {b1 : Nat} (hb : b1 ≠ b) (l0 : 0 ≤ (σ.1 (182 + 6 * b1) 6).toInt) (l1 : (σ.1 (182 + 6 * b1) 6).toInt ≤ 80) : Pt (fun z : Unit × S2 => (z.2.1 (182 + 6 * b) 0 = σ.1 (182 + 6 * b1) 0 ∧ z.2.1 (182 + 6 * b) 2 = σ.1 (182 + 6 * b1) 2 ∧ z.2.1 (182 + 6 * b) 3 = σ.1 (182 + 6 * b1) 3 ∧ z.2.1 (182 + 6 * b) 4 = σ.1 (182 + 6 * b1) 4 ∧ z.2.1 (182 + 6 * b) 6 = σ.1 (182 + 6 * b1) 6) ∧ (∀ k : Nat, k < 12 → z.2.1 (182 + 6 * b + 1) k = σ.1 (182 + 6 * b1 + 1) k) ∧ (∀ i : Nat, (i : Int) < (σ.1 (182 + 6 * b1) 6).toInt → z.2.1 (182 + 6 * b + 3) i = σ.1 (182 + 6 * b1 + 3) i) ∧ ∀ k i : Nat, ¬ (k = 182 + 6 * b ∧ (i = 0 ∨ i = 2 ∨ i = 3 ∨ i = 4 ∨ i = 6)) → k ≠ 182 + 6 * b + 1 → k ≠ 182 + 6 * b + 3 → z.2.1 k i = σ.1 k i) (fX8_takeAll τ b b1 σ) := by
  have z0 := i_0
  have z80 : (80 : Int32).toInt = 80 := rfl
  have y80 : (Int32.ofNat 80).toInt = 80 := rfl
  have n12 : Int32.toNatClampNeg 12 = 12 := rfl
  have n0 : Int32.toNatClampNeg 0 = 0 := rfl
  unfold fX8_takeAll fX8_takeAll_0
  refine pt_nm (fun s1 e1 => pt_cp (fun _ => pt_nm (fun s2 e2 => ?_)))
  have o1 : ∀ k i : Nat, ¬ (k = 182 + 6 * b ∧ i = 0) → s1.1 k i = σ.1 k i := fun k i hn => by
    rw [e1]
    by_cases q : k = 182 + 6 * b
    · subst q
      exact wI_i _ _ _ (fun w => hn ⟨rfl, w⟩)
    · exact wI_k _ _ _ _ q
  have o2 : ∀ k i : Nat, k ≠ 182 + 6 * b + 1 → s2.1 k i = s1.1 k i := fun k i hk => by
    rw [e2]
    show (if k = 182 + 6 * b + 1 then _ else s1.1 k) i = _
    rw [if_neg hk]
  have w2 : ∀ k : Nat, k < 12 → s2.1 (182 + 6 * b + 1) k = s1.1 (182 + 6 * b1 + 1) k := fun k hk => by
    rw [e2]
    show (if 182 + 6 * b + 1 = 182 + 6 * b + 1 then va_cpy (s1.1 (182 + 6 * b1 + 1)) (s1.1 (182 + 6 * b + 1)) (Int32.toNatClampNeg 0) (Int32.toNatClampNeg 0) (Int32.toNatClampNeg 12) else s1.1 (182 + 6 * b + 1)) k = _
    rw [if_pos rfl, n0, n12]
    show (if 0 ≤ k ∧ k < 0 + 12 then s1.1 (182 + 6 * b1 + 1) (0 + (k - 0)) else s1.1 (182 + 6 * b + 1) k) = _
    rw [if_pos (by omega), show 0 + (k - 0) = k by omega]
  have a6 : s2.1 (182 + 6 * b1) 6 = σ.1 (182 + 6 * b1) 6 := by rw [o2 _ _ (by omega), o1 _ _ (by omega)]
  have a3 : ∀ i : Nat, s2.1 (182 + 6 * b1 + 3) i = σ.1 (182 + 6 * b1 + 3) i := fun i => by rw [o2 _ _ (by omega), o1 _ _ (by omega)]
  have lw : Pt (fun z : Unit × S2 => z.2.1 (182 + 6 * b) 6 = σ.1 (182 + 6 * b1) 6 ∧ (∀ i : Nat, (i : Int) < (σ.1 (182 + 6 * b1) 6).toInt → z.2.1 (182 + 6 * b + 3) i = σ.1 (182 + 6 * b1 + 3) i) ∧ ∀ k i : Nat, ¬ (k = 182 + 6 * b ∧ i = 6) → k ≠ 182 + 6 * b + 3 → z.2.1 k i = s2.1 k i) (fX8_takeLaw τ b (182 + 6 * b1 + 3) 80 s2 (s2.1 (182 + 6 * b1) 6)) := by
    rw [a6]
    generalize σ.1 (182 + 6 * b1) 6 = x2 at l0 l1 ⊢
    have n2 := i32_nat l0
    have eA : (if (Int32.ofNat 80) < x2 then (Int32.ofNat 80) else x2) = x2 := if_neg (fun w => by have := Int32.lt_iff_toInt_lt.mp w; omega)
    have eB : (if 80 < x2 then 80 else x2) = x2 := if_neg (fun w => by have := Int32.lt_iff_toInt_lt.mp w; omega)
    have eC : (if 0 < x2 then x2 else 0) = x2 := by
      by_cases c : 0 < x2
      · rw [if_pos c]
      · rw [if_neg c]
        have : ¬ (0 : Int32).toInt < x2.toInt := fun w => c (Int32.lt_iff_toInt_lt.mpr w)
        exact Int32.toInt_inj.mp (by omega)
    unfold fX8_takeLaw fX8_takeLaw_0
    rw [eA, eB, eC]
    refine pt_nm (fun s3 e3 => pt_cp (fun _ => pt_nm (fun s4 e4 => pt_some ?_)))
    have g6 : s3.1 (182 + 6 * b) 6 = x2 := by rw [e3, wI_eq]
    rw [g6] at e4
    have o3 : ∀ k i : Nat, ¬ (k = 182 + 6 * b ∧ i = 6) → s3.1 k i = s2.1 k i := fun k i hn => by
      rw [e3]
      by_cases q : k = 182 + 6 * b
      · subst q
        exact wI_i _ _ _ (fun w => hn ⟨rfl, w⟩)
      · exact wI_k _ _ _ _ q
    have o4 : ∀ k i : Nat, k ≠ 182 + 6 * b + 3 → s4.1 k i = s3.1 k i := fun k i hk => by
      rw [e4]
      show (if k = 182 + 6 * b + 3 then _ else s3.1 k) i = _
      rw [if_neg hk]
    refine ⟨?_, fun i hi => ?_, fun k i h6 h3 => ?_⟩
    · show s4.1 (182 + 6 * b) 6 = x2
      rw [o4 _ _ (by omega), g6]
    · show s4.1 (182 + 6 * b + 3) i = _
      rw [e4]
      show (if 182 + 6 * b + 3 = 182 + 6 * b + 3 then va_cpy (s3.1 (182 + 6 * b1 + 3)) (s3.1 (182 + 6 * b + 3)) (Int32.toNatClampNeg 0) (Int32.toNatClampNeg 0) (Int32.toNatClampNeg x2) else s3.1 (182 + 6 * b + 3)) i = _
      rw [if_pos rfl, n0]
      show (if 0 ≤ i ∧ i < 0 + Int32.toNatClampNeg x2 then s3.1 (182 + 6 * b1 + 3) (0 + (i - 0)) else s3.1 (182 + 6 * b + 3) i) = _
      rw [if_pos (by omega), show 0 + (i - 0) = i by omega, o3 _ _ (by omega), a3]
    · show s4.1 k i = s2.1 k i
      rw [o4 k i h3, o3 k i h6]
  refine pt_bs lw (fun u s5 h5 => ?_)
  obtain ⟨h6, hl, hf⟩ := h5
  have h6 : s5.1 (182 + 6 * b) 6 = σ.1 (182 + 6 * b1) 6 := h6
  have hl : ∀ i : Nat, (i : Int) < (σ.1 (182 + 6 * b1) 6).toInt → s5.1 (182 + 6 * b + 3) i = σ.1 (182 + 6 * b1 + 3) i := hl
  have hf : ∀ k i : Nat, ¬ (k = 182 + 6 * b ∧ i = 6) → k ≠ 182 + 6 * b + 3 → s5.1 k i = s2.1 k i := hf
  refine pt_nm (fun s6 e6 => pt_nm (fun s7 e7 => pt_nm (fun s8 e8 => pt_some ?_)))
  have src : ∀ i : Nat, s5.1 (182 + 6 * b1) i = σ.1 (182 + 6 * b1) i := fun i => by rw [hf _ _ (by omega) (by omega), o2 _ _ (by omega), o1 _ _ (by omega)]
  have q6 : s6.1 (182 + 6 * b1) 3 = σ.1 (182 + 6 * b1) 3 := by rw [e6, wI_k _ _ _ _ (by omega), src]
  have q7 : s7.1 (182 + 6 * b1) 4 = σ.1 (182 + 6 * b1) 4 := by rw [e7, wI_k _ _ _ _ (by omega), e6, wI_k _ _ _ _ (by omega), src]
  rw [src] at e6
  rw [q6] at e7
  rw [q7] at e8
  have o8 : ∀ k i : Nat, ¬ (k = 182 + 6 * b ∧ (i = 2 ∨ i = 3 ∨ i = 4)) → s8.1 k i = s5.1 k i := fun k i hn => by
    rw [e8, e7, e6]
    by_cases q : k = 182 + 6 * b
    · subst q
      rw [wI_i _ _ _ (fun w => hn ⟨rfl, Or.inr (Or.inr w)⟩), wI_i _ _ _ (fun w => hn ⟨rfl, Or.inr (Or.inl w)⟩), wI_i _ _ _ (fun w => hn ⟨rfl, Or.inl w⟩)]
    · rw [wI_k _ _ _ _ q, wI_k _ _ _ _ q, wI_k _ _ _ _ q]
  refine ⟨⟨?_, ?_, ?_, ?_, ?_⟩, fun k hk => ?_, fun i hi => ?_, fun k i hn h1 h3 => ?_⟩
  · show s8.1 (182 + 6 * b) 0 = _
    rw [o8 _ _ (by omega), hf _ _ (by omega) (by omega), o2 _ _ (by omega), e1, wI_eq]
  · show s8.1 (182 + 6 * b) 2 = _
    rw [e8, wI_i _ _ _ (by decide), e7, wI_i _ _ _ (by decide), e6, wI_eq]
  · show s8.1 (182 + 6 * b) 3 = _
    rw [e8, wI_i _ _ _ (by decide), e7, wI_eq]
  · show s8.1 (182 + 6 * b) 4 = _
    rw [e8, wI_eq]
  · show s8.1 (182 + 6 * b) 6 = _
    rw [o8 _ _ (by omega), h6]
  · show s8.1 (182 + 6 * b + 1) k = _
    rw [o8 _ _ (by omega), hf _ _ (by omega) (by omega), w2 k hk, o1 _ _ (by omega)]
  · show s8.1 (182 + 6 * b + 3) i = _
    rw [o8 _ _ (by omega), hl i hi]
  · show s8.1 k i = σ.1 k i
    rw [o8 k i (fun w => hn ⟨w.1, by omega⟩), hf k i (fun w => hn ⟨w.1, by omega⟩) h3, o2 k i h1, o1 k i (fun w => hn ⟨w.1, by omega⟩)]
end TALL
