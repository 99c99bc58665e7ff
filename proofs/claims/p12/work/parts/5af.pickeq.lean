/-! pick: both sides alike, in all three ways -/
section PICKEQ
variable {τ b : Nat} {t m : Int32} {σ ρ : S2}
noncomputable def PKR (b : Nat) (σ0 ρ0 σ ρ : S2) : Prop := ρ.1 0 53 = σ.1 14 2 ∧ (0 ≤ (σ.1 14 2).toInt ∧ (σ.1 14 2).toInt ≤ 12) ∧ (∀ j : Nat, (j : Int) < (σ.1 14 2).toInt → ρ.1 35 j = σ.1 15 j ∧ 0 ≤ (σ.1 15 j).toInt ∧ (σ.1 15 j).toInt ≤ 11 ∧ (σ0.1 (182 + 6 * b) 0).toInt.toNat.testBit (σ.1 15 j).toInt.toNat = true) ∧ (∀ k i : Nat, k ≠ 14 → k ≠ 15 → k ≠ 17 → σ.1 k i = σ0.1 k i) ∧ ∀ k i : Nat, ¬ (k = 0 ∧ i = 53) → k ≠ 35 → ρ.1 k i = ρ0.1 k i
theorem PS.fin {σ0 ρ0 σ ρ : S2} {s : Int32} (h : PS σ0 ρ0 σ ρ s) (hB : SB b σ0 s) : PKR b σ0 ρ0 σ ρ := by
  obtain ⟨p1, p2, p3, p4, p5, p6, p7⟩ := h
  exact ⟨p1, p2, fun j hj => ⟨(p3 j hj).1, (p3 j hj).2.1, (p3 j hj).2.2.1, hB _ (p3 j hj).2.2.2⟩, p6, p7⟩
theorem pick_eq {a c : Unit × S2} (hP : PT b t σ ρ) (hW : PW b t σ ρ) (m0 : 0 ≤ m.toInt) (m1 : m.toInt ≤ 999) (h : fX1_pick τ b σ m = some a) (h2 : fX12_pick ρ t m = some c) : PKR b σ ρ a.2 c.2 := by
  have z0 := i_0
  unfold fX1_pick fX1_pick_0 at h
  unfold fX12_pick fX12_pick_0 at h2
  dsimp only [nm] at h h2
  have g2 : (ux_wI (ux_wI σ 14 2 0) 14 6 0).1 14 2 = 0 := by rw [wI_i _ _ _ (by decide), wI_eq]
  have g6 : (ux_wI (ux_wI σ 14 2 0) 14 6 0).1 14 6 = 0 := wI_eq _ _ _ _
  have gf : ∀ k i : Nat, k ≠ 14 → (ux_wI (ux_wI σ 14 2 0) 14 6 0).1 k i = σ.1 k i := fun k i hk => by rw [wI_k _ _ _ _ hk, wI_k _ _ _ _ hk]
  generalize ux_wI (ux_wI σ 14 2 0) 14 6 0 = σ2 at h g2 g6 gf
  have r53 : (ux_wI ρ 0 53 0).1 0 53 = 0 := wI_eq _ _ _ _
  have rf : ∀ k i : Nat, ¬ (k = 0 ∧ i = 53) → k ≠ 35 → (ux_wI ρ 0 53 0).1 k i = ρ.1 k i := fun k i h0 _ => by
    by_cases q : k = 0
    · subst q
      exact wI_i _ _ _ (fun w => h0 ⟨rfl, w⟩)
    · exact wI_k _ _ _ _ q
  generalize ux_wI ρ 0 53 0 = ρ2 at h2 r53 rf
  have hS : PS σ ρ σ2 ρ2 0 := ⟨by rw [r53, g2], by rw [g2, z0]; omega, fun j hj => by rw [g2, z0] at hj; omega, g6, by rw [z0]; omega, fun k i h14 _ _ => gf k i h14, rf⟩
  have hB : SB b σ 0 := fun k hk => by
    rw [show (0 : Int32).toInt.toNat = 0 from rfl, Nat.zero_testBit] at hk; cases hk
  have way : σ2.1 (182 + 6 * b) 4 = σ.1 (182 + 6 * b) 4 := gf _ _ (by omega)
  rw [way] at h
  by_cases w1 : σ.1 (182 + 6 * b) 4 = 1
  · rw [if_pos w1] at h
    obtain ⟨u, σ3, f3, h⟩ := bsS h
    cases h
    unfold fX1_pickBySums fX1_pickBySums_0 at f3
    have hT0 : SRT b σ m (0 : Int32).toInt 0 (σ2.1 15) (σ2.1 17) := ⟨fun i hi => absurd hi (Nat.not_lt_zero _), fun i j _ hj => absurd hj (Nat.not_lt_zero _), fun k hk => by rw [z0] at hk; omega⟩
    obtain ⟨⟨n, hn, hc, hT⟩, _, hf⟩ := sums_c (σ0 := σ) hP.2.2.2.2.1.1 hP.2.2.2.2.1.2 FU σ2 0 0 (by decide) (by decide) (by rw [g2]; rfl) (by decide) hT0 (fun k i h14 _ _ => gf k i h14) _ f3
    have hc : (σ3.1 14 2).toInt = (n : Int) := hc
    have hT : SRT b σ m 12 n (σ3.1 15) (σ3.1 17) := hT
    obtain ⟨e1, e2, e3⟩ := sums_m hP hW w1 hn hT FU ρ2 0 m 0 (Nat.zero_le _) (by rw [r53]; rfl) (fun i hi => absurd hi (Nat.not_lt_zero _)) (by decide) (fun k hk => ⟨fun w => (by rw [show (0 : Int32).toInt.toNat = 0 from rfl, Nat.zero_testBit] at w; cases w), fun ⟨i, hi, _⟩ => absurd hi (Nat.not_lt_zero _)⟩) rf _ h2
    show PKR b σ ρ σ3 c.2
    refine ⟨Int32.toInt_inj.mp (e1.trans hc.symm), by omega, fun j hj => ?_, hf, e3⟩
    have p := hT.1 j (by omega)
    exact ⟨e2 j (by omega), p.1, by omega, p.2.2.1⟩
  rw [if_neg w1] at h
  by_cases w2 : σ.1 (182 + 6 * b) 4 = 2
  · rw [if_pos w2] at h
    obtain ⟨u, σ3, f3, h⟩ := bsS h
    cases h
    unfold fX1_pickByJumps fX1_pickByJumps_0 at f3
    obtain ⟨s2, h3, h4⟩ := jumps_lp hP w2 m0 m1 FU FU σ2 ρ2 0 0 m _ c hS hB (by decide) (by rw [g2]) (by rw [z0]; omega) f3 h2
    exact h3.fin h4
  · rw [if_neg w2] at h
    obtain ⟨u, σ3, f3, h⟩ := bsS h
    cases h
    unfold fX1_pickRound fX1_pickRound_0 at f3
    obtain ⟨s2, h3, h4⟩ := round_lp hP w1 w2 m0 m1 FU FU σ2 ρ2 0 m 0 0 _ c hS hB ⟨⟨by decide, by decide⟩, rfl, fun j j0 jd => by exfalso; omega⟩ (by omega) f3 h2
    exact h3.fin h4
/-- a table that stands is set up on both sides -/
theorem pt_of {a : Int32} (hR : RelC σ ρ) (hI : IvC 0 τ σ) (hM : IvM 0 ρ) (a0 : 0 ≤ a.toInt) (a1 : a.toInt < (σ.1 0 6).toInt) : PT (a.toNatClampNeg + 1) a σ ρ ∧ PW (a.toNatClampNeg + 1) a σ ρ := by
  have b6 : 0 ≤ (σ.1 0 6).toInt ∧ (σ.1 0 6).toInt ≤ 10 := hI.1 0 6
  have b3 : 0 ≤ (ρ.1 0 3).toInt ∧ (ρ.1 0 3).toInt ≤ 12 := hM.1 0 3
  have hC : ρ.1 0 9 = σ.1 0 6 := hR.1.2.2.2.1
  have na := i32_nat a0
  have hn : ((a.toNatClampNeg : Nat) : Int) < (ρ.1 0 9).toInt := by rw [hC]; omega
  obtain ⟨⟨_, p8⟩, ⟨x0, x1, x2, x3, x4, x5, x6⟩, y1, y2, y3, y4, y5, y6⟩ := hR.2 a.toNatClampNeg (by omega)
  have s0 := set_lt hM hn
  have s1 := set_le hM hn
  have F := hM.2.2.1 a.toNatClampNeg (Or.inl hn)
  rw [x0] at s0 s1 p8
  refine ⟨⟨⟨a0, by omega⟩, y4, x0, x4, ⟨s0.1, s1⟩, fun p hp => ?_, fun k hk ht => ?_, y5, y6⟩, x1, fun k hk ht => ?_, b3, s0.2⟩
  · rcases F.2.2 with w | w
    · rw [x0] at w; omega
    · rcases w p hp with w | w
      · rw [y4 p hp] at w
        exact Or.inl (Int32.toInt_inj.mp (w.trans i_m1.symm))
      · rw [y4 p hp, x0] at w
        refine Or.inr ⟨w.1, ?_, w.2⟩
        by_cases q : (σ.1 (182 + 6 * (a.toNatClampNeg + 1) + 4) p).toInt ≤ 11
        · exact q
        · have w2 := w.2
          have e : 2 ^ 12 = 4096 := by decide
          have pw : 2 ^ 12 ≤ 2 ^ (σ.1 (182 + 6 * (a.toNatClampNeg + 1) + 4) p).toInt.toNat := Nat.pow_le_pow_right (by decide) (by omega)
          rw [Nat.testBit_lt_two_pow (by omega)] at w2; cases w2
  · obtain ⟨p, hp, e⟩ := F.2.1 k hk (by rw [x0]; exact ht)
    rw [y4 p hp] at e
    exact ⟨p, hp, e⟩
  · rw [y2 k hk, x0, if_pos ht]
theorem an_picked {a b c r q : Int32} {σ' ρ' : S2} (hR : RelC σ ρ) (hI : IvC 0 τ σ) (hM : IvM 0 ρ) (h : fX11_picked τ σ a b c = some (r, σ')) (h2 : fX12_picked ρ a b c = some (q, ρ')) : r = q := by
  have z0 := i_0
  have z1 := i_1
  have z999 : (999 : Int32).toInt = 999 := rfl
  have hC : ρ.1 0 9 = σ.1 0 6 := hR.1.2.2.2.1
  unfold fX11_picked fX11_picked_0 at h
  unfold fX12_picked fX12_picked_0 at h2
  obtain ⟨r1, f1, h2⟩ := biS h2
  have g1 := q_tableM hM _ f1
  rw [hC] at g1
  rw [tableAt_q hI] at h
  by_cases w : 0 ≤ a.toInt ∧ a.toInt < (σ.1 0 6).toInt
  · rw [if_pos w] at h
    rw [if_neg (fun w => by rw [w] at g1; omega)] at h2
    rcases btS h with ⟨e, _⟩ | ⟨b', e, h⟩
    · cases e
    have e : b' = a.toNatClampNeg + 1 := (Option.some.inj (Option.some.inj e)).symm
    rw [e] at h
    obtain ⟨r3, f3, h⟩ := biS h
    have g3 := q_place _ f3
    obtain ⟨r4, f4, h2⟩ := biS h2
    have g4 := q_in _ f4
    rw [z0, z999] at g4
    by_cases p : 0 ≤ b.toInt ∧ b.toInt ≤ 999
    · rw [if_neg (fun w => by rw [w] at g3; omega)] at h
      rw [if_neg (fun w => by rw [w] at g4; omega)] at h2
      obtain ⟨hP, hW⟩ := pt_of hR hI hM w.1 w.2
      obtain ⟨u5, ρ6, f5, h2⟩ := bsS h2
      obtain ⟨r8, f8, h2⟩ := biS h2
      have g8 := q_in _ f8
      by_cases c0 : 0 ≤ c
      · rw [if_pos c0] at h
        have c0' := Int32.le_iff_toInt_le.mp c0
        obtain ⟨u6, σ6, f6, h⟩ := bsS h
        obtain ⟨k1, k2, k3, _, _⟩ := pick_eq hP hW p.1 p.2 f6 f5
        have k1 : ρ6.1 0 53 = σ6.1 14 2 := k1
        have k2 : 0 ≤ (σ6.1 14 2).toInt ∧ (σ6.1 14 2).toInt ≤ 12 := k2
        have em : (ρ6.1 0 53 - 1).toInt = (σ6.1 14 2).toInt - 1 := by rw [k1, i32_sub (by omega) (by omega)]; omega
        rw [em, z0] at g8
        by_cases d : σ6.1 14 2 ≤ c
        · rw [if_pos d] at h
          have d' := Int32.le_iff_toInt_le.mp d
          rw [if_pos (Int32.toInt_inj.mp (by rw [z0]; omega))] at h2
          cases h; cases h2; rfl
        · rw [if_neg d] at h
          have d' : ¬ (σ6.1 14 2).toInt ≤ c.toInt := fun w => d (Int32.le_iff_toInt_le.mpr w)
          rw [if_neg (fun w => by rw [w] at g8; omega)] at h2
          obtain ⟨_, h⟩ := ckS h
          obtain ⟨_, h2⟩ := ckS h2
          have nc := i32_nat (i := c) (by omega)
          have e9 : ρ6.1 35 c.toNatClampNeg = σ6.1 15 c.toNatClampNeg := (k3 c.toNatClampNeg (by show ((c.toNatClampNeg : Nat) : Int) < (σ6.1 14 2).toInt; omega)).1
          have h : some (σ6.1 15 c.toNatClampNeg, σ6) = some (r, σ') := h
          have h2 : some (ρ6.1 35 c.toNatClampNeg, ρ6) = some (q, ρ') := h2
          cases h; cases h2; exact e9.symm
      · rw [if_neg c0] at h
        have c0' : ¬ (0 : Int32).toInt ≤ c.toInt := fun w => c0 (Int32.le_iff_toInt_le.mpr w)
        rw [if_pos (Int32.toInt_inj.mp (by rw [z0]; rw [z0] at g8; omega))] at h2
        cases h; cases h2; rfl
    · rw [if_pos (Int32.toInt_inj.mp (by rw [z0]; omega))] at h
      rw [if_pos (Int32.toInt_inj.mp (by rw [z0]; omega))] at h2
      cases h; cases h2; rfl
  · rw [if_neg w] at h
    have h : some ((-1 : Int32), σ) = some (r, σ') := h
    rw [if_pos (Int32.toInt_inj.mp (by rw [z0]; omega))] at h2
    cases h; cases h2; rfl
end PICKEQ
