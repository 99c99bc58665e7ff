theorem sX12_fall_53 {g : Nat} : ∀ (n : Nat) (σ : S2) (x1 : Int32) (x2 : Int32) (x3 : Int32) (x4 : Int32), IvM g σ → 0 ≤ x1.toInt → x1.toInt ≤ 11 → 0 ≤ x2.toInt → x2.toInt ≤ 1 → 0 ≤ x3.toInt → x3.toInt ≤ 1 → 0 ≤ x4.toInt → x4.toInt ≤ 40 → 40 - x4.toInt < (n : Int) → Ok (fun z => IvM g z.2 ∧ (-1) ≤ z.1.toInt ∧ z.1.toInt ≤ 1) (fX12_fall_53 n σ x1 x2 x3 x4) := by
  have hFU : ((FU : Nat) : Int) = 100000 := rfl
  intro n
  induction n with
  | zero => intro σ x1 x2 x3 x4 hI p9000 p9001 p9002 p9003 p9004 p9005 p9006 p9007 hm; exfalso; omega
  | succ n ih =>
    intro σ x1 x2 x3 x4 hI p9000 p9001 p9002 p9003 p9004 p9005 p9006 p9007 hm
    unfold fX12_fall_53
    have : (40 : Int32).toInt = 40 := by decide
    refine ok_le (fun h1 => ?_) (fun h1 => ?_)
    · exact ok_some ⟨hI, by show (-1) ≤ x3.toInt; omega, by show x3.toInt ≤ 1; omega⟩
    · have : (1 : Int32).toInt = 1 := by decide
      refine ok_eq (fun h2 => ?_) (fun h2 => ?_)
      · have : ((40 * x1) : Int32).toInt = 40 * (x1 : Int32).toInt := i32_mulL (by omega) (by omega) (by omega)
        have : (((40 * x1) + x4) : Int32).toInt = ((40 * x1) : Int32).toInt + (x4 : Int32).toInt := i32_add (by omega) (by omega)
        refine ok_ck (by omega) (by omega) ?_
        have : (0 : Int32).toInt = 0 := by decide
        refine ok_nm (fun σ1 hs3 => ?_)
        have hI4 : IvM g σ1 := by rw [hs3]; exact IvM.wI hI rfl (i32_rng _).1 (i32_rng _).2
        refine ok_ck (by omega) (by omega) ?_
        refine ok_nm (fun σ2 hs5 => ?_)
        have hI6 : IvM g σ2 := by rw [hs5]; exact IvM.wI hI4 rfl (i32_rng _).1 (i32_rng _).2
        refine ok_ck (by omega) (by omega) ?_
        have : ((-2) : Int32).toInt = (-2) := by decide
        refine ok_nm (fun σ3 hs7 => ?_)
        have hI8 : IvM g σ3 := by rw [hs7]; exact IvM.wI hI6 rfl (show (-2) ≤ ((-2) : Int32).toInt by omega) (show ((-2) : Int32).toInt ≤ 11 by omega)
        have : ((x4 + 1) : Int32).toInt = (x4 : Int32).toInt + (1 : Int32).toInt := i32_add (by omega) (by omega)
        refine ok_nmI (fun v4 hv4 he9 => ?_)
        exact ih σ3 x1 x2 x3 v4 hI8 (by omega) (by omega) (by omega) (by omega) (by omega) (by omega) (by omega) (by omega) (by omega)
      · exact ok_some ⟨hI, by show (-1) ≤ x3.toInt; omega, by show x3.toInt ≤ 1; omega⟩

theorem sX12_fall_49 {g : Nat} (σ : S2) (x1 : Int32) (x2 : Int32) (x3 : Int32) (s0 : Int32) (s1 : Int32) (hI : IvM g σ) (p9000 : 0 ≤ x1.toInt) (p9001 : x1.toInt ≤ 11) (p9002 : 0 ≤ x2.toInt) (p9003 : x2.toInt ≤ 1) (p9004 : 0 ≤ x3.toInt) (p9005 : x3.toInt ≤ 1) (p9006 : 0 ≤ s0.toInt) (p9007 : s0.toInt ≤ 1) (p9008 : 0 ≤ s1.toInt) (p9009 : s1.toInt ≤ 11)  : Ok (fun z => IvM g z.2 ∧ (-1) ≤ z.1.toInt ∧ z.1.toInt ≤ 1) (fX12_fall_49 σ x1 x2 x3 s0 s1) := by
  have hFU : ((FU : Nat) : Int) = 100000 := rfl
  unfold fX12_fall_49
  refine ok_ck (by omega) (by omega) ?_
  have : ((vp_nar .boolean s0) : Int32).toInt = (s0 : Int32).toInt := i32_narb (by omega) (by omega)
  refine ok_nm (fun σ5 hs1 => ?_)
  have hI2 : IvM g σ5 := by rw [hs1]; exact IvM.wI hI rfl (show 0 ≤ ((vp_nar .boolean s0) : Int32).toInt by omega) (show ((vp_nar .boolean s0) : Int32).toInt ≤ 1 by omega)
  have : (0 : Int32).toInt = 0 := by decide
  exact sX12_fall_53 FU σ5 x1 x2 x3 0 hI2 (by omega) (by omega) (by omega) (by omega) (by omega) (by omega) (by omega) (by omega) (by omega)

theorem sX12_fall_33 {g : Nat} (σ : S2) (x1 : Int32) (x2 : Int32) (s0 : Int32) (hI : IvM g σ) (p9000 : 0 ≤ x1.toInt) (p9001 : x1.toInt ≤ 11) (p9002 : 0 ≤ x2.toInt) (p9003 : x2.toInt ≤ 1) (p9004 : 0 ≤ s0.toInt) (p9005 : s0.toInt ≤ 1)  : Ok (fun z => IvM g z.2 ∧ (-1) ≤ z.1.toInt ∧ z.1.toInt ≤ 1) (fX12_fall_33 σ x1 x2 s0) := by
  have hFU : ((FU : Nat) : Int) = 100000 := rfl
  unfold fX12_fall_33
  have : (1 : Int32).toInt = 1 := by decide
  refine ok_eq (fun h1 => ?_) (fun h1 => ?_)
  · exact sX12_fall_49 σ x1 x2 s0 1 x1 hI (by omega) (by omega) (by omega) (by omega) (by omega) (by omega) (by omega) (by omega) (by omega) (by omega)
  · have : (0 : Int32).toInt = 0 := by decide
    exact sX12_fall_49 σ x1 x2 s0 0 x1 hI (by omega) (by omega) (by omega) (by omega) (by omega) (by omega) (by omega) (by omega) (by omega) (by omega)

theorem sX12_fall_0 {g : Nat} (σ : S2) (x1 : Int32) (x2 : Int32) (hI : IvM g σ)   : Ok (fun z => IvM g z.2 ∧ (-1) ≤ z.1.toInt ∧ z.1.toInt ≤ 1) (fX12_fall_0 σ x1 x2) := by
  have hFU : ((FU : Nat) : Int) = 100000 := rfl
  unfold fX12_fall_0
  have := i32_rng x1
  refine ok_bi (sX12_isKeeper σ x1 hI) (fun r6 hr1 => ?_)
  obtain ⟨p2, p3, p4⟩ := hr1
  have p2 : 0 ≤ r6.toInt := p2
  have p3 : r6.toInt ≤ 1 := p3
  have p4 : r6.toInt ≠ 0 → 0 ≤ x1.toInt ∧ x1.toInt < (σ.1 0 3).toInt := p4
  have : 0 ≤ (σ.1 0 3).toInt ∧ (σ.1 0 3).toInt ≤ 12 := hI.1 0 3
  have : (0 : Int32).toInt = 0 := by decide
  refine ok_eq (fun h5 => ?_) (fun h5 => ?_)
  · have : ((-1) : Int32).toInt = (-1) := by decide
    exact ok_some ⟨hI, by show (-1) ≤ ((-1) : Int32).toInt; omega, by show ((-1) : Int32).toInt ≤ 1; omega⟩
  · have := i32_rng x2
    have : (1 : Int32).toInt = 1 := by decide
    refine ok_bi (sX12_in σ x2 0 1 hI (by omega) (by omega) (by omega) (by omega)) (fun r8 hr6 => ?_)
    obtain ⟨p7, p8, p9⟩ := hr6
    have p7 : 0 ≤ r8.toInt := p7
    have p8 : r8.toInt ≤ 1 := p8
    have p9 : r8.toInt ≠ 0 → (0 : Int32).toInt ≤ x2.toInt ∧ x2.toInt ≤ (1 : Int32).toInt := p9
    refine ok_eq (fun h10 => ?_) (fun h10 => ?_)
    · have : ((-1) : Int32).toInt = (-1) := by decide
      exact ok_some ⟨hI, by show (-1) ≤ ((-1) : Int32).toInt; omega, by show ((-1) : Int32).toInt ≤ 1; omega⟩
    · refine ok_ck (by omega) (by omega) ?_
      have : 0 ≤ (σ.1 7 (Int32.toNatClampNeg x1)).toInt ∧ (σ.1 7 (Int32.toNatClampNeg x1)).toInt ≤ 1 := hI.1 7 (Int32.toNatClampNeg x1)
      refine ok_nmI (fun v10 hv10 he11 => ?_)
      refine ok_eq (fun h12 => ?_) (fun h12 => ?_)
      · exact sX12_fall_33 σ x1 x2 0 hI (by omega) (by omega) (by omega) (by omega) (by omega) (by omega)
      · exact sX12_fall_33 σ x1 x2 1 hI (by omega) (by omega) (by omega) (by omega) (by omega) (by omega)

theorem sX12_fall {g : Nat} (σ : S2) (a1 : Int32) (a2 : Int32) (hI : IvM g σ)   : Ok (fun z => IvM g z.2 ∧ (-1) ≤ z.1.toInt ∧ z.1.toInt ≤ 1) (fX12_fall σ a1 a2) := by
  unfold fX12_fall
  exact sX12_fall_0 σ a1 a2 hI

theorem sX12_half_68 {g : Nat} (σ : S2) (x4 : Int32) (hI : IvM g σ) (p9000 : 0 ≤ x4.toInt) (p9001 : x4.toInt ≤ 479)  : Ok (fun z => IvM g z.2 ∧ z.1.toInt ≤ 3) (fX12_half_68 σ x4) := by
  have hFU : ((FU : Nat) : Int) = 100000 := rfl
  unfold fX12_half_68
  refine ok_ck (by omega) (by omega) ?_
  have : (0 : Int32).toInt = 0 := by decide
  refine ok_nm (fun σ1 hs1 => ?_)
  have hI2 : IvM g σ1 := by rw [hs1]; exact IvM.wI hI rfl (i32_rng _).1 (i32_rng _).2
  exact ok_some ⟨hI2, by show (0 : Int32).toInt ≤ 3; omega⟩

theorem sX12_half_194 {g : Nat} (σ : S2) (x4 : Int32) (s0 : Int32) (s1 : Int32) (hI : IvM g σ) (p9000 : 0 ≤ x4.toInt) (p9001 : x4.toInt ≤ 479) (p9002 : 0 ≤ s1.toInt) (p9003 : s1.toInt ≤ 479)  : Ok (fun z => IvM g z.2 ∧ z.1.toInt ≤ 3) (fX12_half_194 σ x4 s0 s1) := by
  have hFU : ((FU : Nat) : Int) = 100000 := rfl
  unfold fX12_half_194
  refine ok_ck (by omega) (by omega) ?_
  have := i32_rng s0
  refine ok_nm (fun σ2 hs1 => ?_)
  have hI2 : IvM g σ2 := by rw [hs1]; exact IvM.wI hI rfl (i32_rng _).1 (i32_rng _).2
  refine ok_ck (by omega) (by omega) ?_
  have : (0 : Int32).toInt = 0 := by decide
  refine ok_nm (fun σ3 hs3 => ?_)
  have hI4 : IvM g σ3 := by rw [hs3]; exact IvM.wI hI2 rfl (i32_rng _).1 (i32_rng _).2
  refine ok_ck (by omega) (by omega) ?_
  refine ok_nm (fun σ4 hs5 => ?_)
  have hI6 : IvM g σ4 := by rw [hs5]; exact IvM.wI hI4 rfl (i32_rng _).1 (i32_rng _).2
  have : (3 : Int32).toInt = 3 := by decide
  exact ok_some ⟨hI6, by show (3 : Int32).toInt ≤ 3; omega⟩

theorem sX12_half_118 {g : Nat} (σ : S2) (x1 : Int32) (x3 : Int32) (x4 : Int32) (s0 : Int32) (s1 : Int32) (hI : IvM g σ) (p9000 : 0 ≤ x1.toInt) (p9001 : x1.toInt ≤ 39) (p9002 : 0 ≤ x3.toInt) (p9003 : x3.toInt ≤ 11) (p9004 : 0 ≤ x4.toInt) (p9005 : x4.toInt ≤ 479) (p9006 : 0 ≤ s1.toInt) (p9007 : s1.toInt ≤ 479)  : Ok (fun z => IvM g z.2 ∧ z.1.toInt ≤ 3) (fX12_half_118 σ x1 x3 x4 s0 s1) := by
  have hFU : ((FU : Nat) : Int) = 100000 := rfl
  unfold fX12_half_118
  refine ok_ck (by omega) (by omega) ?_
  have := i32_rng s0
  refine ok_nm (fun σ5 hs1 => ?_)
  have hI2 : IvM g σ5 := by rw [hs1]; exact IvM.wI hI rfl (i32_rng _).1 (i32_rng _).2
  refine ok_ck (by omega) (by omega) ?_
  refine ok_nm (fun σ6 hs3 => ?_)
  have hI4 : IvM g σ6 := by rw [hs3]; exact IvM.wI hI2 rfl (show 0 ≤ (x3 : Int32).toInt by omega) (show (x3 : Int32).toInt ≤ 11 by omega)
  refine ok_ck (by omega) (by omega) ?_
  have := i32_rng (σ6.1 23 (Int32.toNatClampNeg x4))
  refine ok_nmI (fun v7 hv7 he5 => ?_)
  have : (3 : Int32).toInt = 3 := by decide
  have := i32_rng v7
  refine ok_le (fun h6 => ?_) (fun h6 => ?_)
  · have : (40 : Int32).toInt = 40 := by decide
    have : ((40 * x3) : Int32).toInt = 40 * (x3 : Int32).toInt := i32_mulL (by omega) (by omega) (by omega)
    have : (((40 * x3) + x1) : Int32).toInt = ((40 * x3) : Int32).toInt + (x1 : Int32).toInt := i32_add (by omega) (by omega)
    refine ok_nmI (fun v8 hv8 he7 => ?_)
    refine ok_ck (by omega) (by omega) ?_
    have := i32_rng (σ6.1 20 (Int32.toNatClampNeg x4))
    refine ok_nmI (fun v9 hv9 he8 => ?_)
    refine ok_ck (by omega) (by omega) ?_
    have := i32_rng (σ6.1 20 (Int32.toNatClampNeg v8))
    refine ok_nmI (fun v10 hv10 he9 => ?_)
    have := i32_rng v9
    have := i32_rng v10
    refine ok_le (fun h10 => ?_) (fun h10 => ?_)
    · refine ok_ck (by omega) (by omega) ?_
      refine ok_nmI (fun v11 hv11 he11 => ?_)
      have := i32_rng v11
      exact sX12_half_194 σ6 x4 v11 v8 hI4 (by omega) (by omega) (by omega) (by omega)
    · refine ok_ck (by omega) (by omega) ?_
      refine ok_nmI (fun v12 hv12 he12 => ?_)
      have := i32_rng v12
      exact sX12_half_194 σ6 x4 v12 v8 hI4 (by omega) (by omega) (by omega) (by omega)
  · refine ok_ck (by omega) (by omega) ?_
    refine ok_nmI (fun v13 hv13 he13 => ?_)
    have := i32_rng v13
    exact ok_some ⟨hI4, by show v13.toInt ≤ 3; omega⟩

theorem sX12_half_117 {g : Nat} (σ : S2) (x1 : Int32) (x3 : Int32) (x4 : Int32) (s0 : Int32) (hI : IvM g σ) (p9000 : 0 ≤ x1.toInt) (p9001 : x1.toInt ≤ 39) (p9002 : 0 ≤ x3.toInt) (p9003 : x3.toInt ≤ 11) (p9004 : 0 ≤ x4.toInt) (p9005 : x4.toInt ≤ 479) (p9006 : 0 ≤ s0.toInt) (p9007 : s0.toInt ≤ 479)  : Ok (fun z => IvM g z.2 ∧ z.1.toInt ≤ 3) (fX12_half_117 σ x1 x3 x4 s0) := by
  have hFU : ((FU : Nat) : Int) = 100000 := rfl
  unfold fX12_half_117
  have : (1 : Int32).toInt = 1 := by decide
  exact sX12_half_118 σ x1 x3 x4 1 s0 hI (by omega) (by omega) (by omega) (by omega) (by omega) (by omega) (by omega) (by omega)

theorem sX12_half_0 {g : Nat} (σ : S2) (x1 : Int32) (x2 : Int32) (x3 : Int32) (hI : IvM g σ)   : Ok (fun z => IvM g z.2 ∧ z.1.toInt ≤ 3) (fX12_half_0 σ x1 x2 x3) := by
  have hFU : ((FU : Nat) : Int) = 100000 := rfl
  unfold fX12_half_0
  have := i32_rng x1
  refine ok_bi (sX12_isName σ x1 hI) (fun r14 hr1 => ?_)
  obtain ⟨p2, p3, p4⟩ := hr1
  have p2 : 0 ≤ r14.toInt := p2
  have p3 : r14.toInt ≤ 1 := p3
  have p4 : r14.toInt ≠ 0 → 0 ≤ x1.toInt ∧ x1.toInt < (σ.1 0 0).toInt := p4
  have : 0 ≤ (σ.1 0 0).toInt ∧ (σ.1 0 0).toInt ≤ 40 := hI.1 0 0
  have : (0 : Int32).toInt = 0 := by decide
  refine ok_eq (fun h5 => ?_) (fun h5 => ?_)
  · have : ((-1) : Int32).toInt = (-1) := by decide
    exact ok_some ⟨hI, by show ((-1) : Int32).toInt ≤ 3; omega⟩
  · have := i32_rng x2
    refine ok_bi (sX12_isKeeper σ x2 hI) (fun r16 hr6 => ?_)
    obtain ⟨p7, p8, p9⟩ := hr6
    have p7 : 0 ≤ r16.toInt := p7
    have p8 : r16.toInt ≤ 1 := p8
    have p9 : r16.toInt ≠ 0 → 0 ≤ x2.toInt ∧ x2.toInt < (σ.1 0 3).toInt := p9
    have : 0 ≤ (σ.1 0 3).toInt ∧ (σ.1 0 3).toInt ≤ 12 := hI.1 0 3
    refine ok_eq (fun h10 => ?_) (fun h10 => ?_)
    · have : ((-1) : Int32).toInt = (-1) := by decide
      exact ok_some ⟨hI, by show ((-1) : Int32).toInt ≤ 3; omega⟩
    · have := i32_rng x3
      refine ok_bi (sX12_isKeeper σ x3 hI) (fun r18 hr11 => ?_)
      obtain ⟨p12, p13, p14⟩ := hr11
      have p12 : 0 ≤ r18.toInt := p12
      have p13 : r18.toInt ≤ 1 := p13
      have p14 : r18.toInt ≠ 0 → 0 ≤ x3.toInt ∧ x3.toInt < (σ.1 0 3).toInt := p14
      refine ok_eq (fun h15 => ?_) (fun h15 => ?_)
      · have : ((-1) : Int32).toInt = (-1) := by decide
        exact ok_some ⟨hI, by show ((-1) : Int32).toInt ≤ 3; omega⟩
      · refine ok_eq (fun h16 => ?_) (fun h16 => ?_)
        · have : ((-1) : Int32).toInt = (-1) := by decide
          exact ok_some ⟨hI, by show ((-1) : Int32).toInt ≤ 3; omega⟩
        · have : (40 : Int32).toInt = 40 := by decide
          have : ((40 * x2) : Int32).toInt = 40 * (x2 : Int32).toInt := i32_mulL (by omega) (by omega) (by omega)
          have : (((40 * x2) + x1) : Int32).toInt = ((40 * x2) : Int32).toInt + (x1 : Int32).toInt := i32_add (by omega) (by omega)
          refine ok_nmI (fun v20 hv20 he17 => ?_)
          refine ok_ck (by omega) (by omega) ?_
          have := i32_rng (σ.1 20 (Int32.toNatClampNeg v20))
          refine ok_nmI (fun v21 hv21 he18 => ?_)
          have := i32_rng v21
          refine ok_eq (fun h19 => ?_) (fun h19 => ?_)
          · have : ((-2) : Int32).toInt = (-2) := by decide
            exact ok_some ⟨hI, by show ((-2) : Int32).toInt ≤ 3; omega⟩
          · refine ok_bi (sX12_isAwake σ x2 hI (by omega) (by omega)) (fun r22 hr20 => ?_)
            obtain ⟨p21, p22⟩ := hr20
            have p21 : 0 ≤ r22.toInt := p21
            have p22 : r22.toInt ≤ 1 := p22
            refine ok_eq (fun h23 => ?_) (fun h23 => ?_)
            · exact sX12_half_68 σ v20 hI (by omega) (by omega)
            · refine ok_bi (sX12_isAwake σ x3 hI (by omega) (by omega)) (fun r24 hr24 => ?_)
              obtain ⟨p25, p26⟩ := hr24
              have p25 : 0 ≤ r24.toInt := p25
              have p26 : r24.toInt ≤ 1 := p26
              refine ok_eq (fun h27 => ?_) (fun h27 => ?_)
              · exact sX12_half_68 σ v20 hI (by omega) (by omega)
              · refine ok_ck (by omega) (by omega) ?_
                have := i32_rng (σ.1 23 (Int32.toNatClampNeg v20))
                refine ok_nmI (fun v26 hv26 he28 => ?_)
                have := i32_rng v26
                refine ok_le (fun h29 => ?_) (fun h29 => ?_)
                · exact sX12_half_117 σ x1 x3 v20 v20 hI (by omega) (by omega) (by omega) (by omega) (by omega) (by omega) (by omega) (by omega)
                · refine ok_ck (by omega) (by omega) ?_
                  have : 0 ≤ (σ.1 24 (Int32.toNatClampNeg v20)).toInt ∧ (σ.1 24 (Int32.toNatClampNeg v20)).toInt ≤ 11 := hI.1 24 (Int32.toNatClampNeg v20)
                  refine ok_nmI (fun v27 hv27 he30 => ?_)
                  refine ok_eq (fun h31 => ?_) (fun h31 => ?_)
                  · refine ok_ck (by omega) (by omega) ?_
                    refine ok_nmI (fun v28 hv28 he32 => ?_)
                    have := i32_rng v28
                    have : (1 : Int32).toInt = 1 := by decide
                    have := i32_rng (v28 + 1)
                    exact sX12_half_118 σ x1 x3 v20 (v28 + 1) v20 hI (by omega) (by omega) (by omega) (by omega) (by omega) (by omega) (by omega) (by omega)
                  · exact sX12_half_117 σ x1 x3 v20 v20 hI (by omega) (by omega) (by omega) (by omega) (by omega) (by omega) (by omega) (by omega)

theorem sX12_half {g : Nat} (σ : S2) (a1 : Int32) (a2 : Int32) (a3 : Int32) (hI : IvM g σ)   : Ok (fun z => IvM g z.2 ∧ z.1.toInt ≤ 3) (fX12_half σ a1 a2 a3) := by
  unfold fX12_half
  exact sX12_half_0 σ a1 a2 a3 hI

theorem sX12_mend_174 {g : Nat} (k98 : S2 → Int32 → Int32 → Int32 → Int32 → Int32 → Option (Int32 × S2)) (σ : S2) (x1 : Int32) (x2 : Int32) (x3 : Int32) (x4 : Int32) (x5 : Int32) (hI : IvM g σ) (p9000 : 0 ≤ x1.toInt) (p9001 : x1.toInt ≤ 9) (p9002 : 0 ≤ x3.toInt) (p9003 : x3.toInt ≤ 39) (p9004 : 0 ≤ x4.toInt) (p9005 : 0 ≤ x5.toInt) (p9006 : x5.toInt ≤ 3) (p9007 : (x1.toInt < (σ.1 0 9).toInt ∨ (x1.toInt = 10 ∧ g = 0))) (hk98 : ∀ (y0 : S2) (y1 : Int32) (y2 : Int32) (y3 : Int32) (y4 : Int32) (y5 : Int32), IvM g y0 → 0 ≤ y1.toInt → y1.toInt ≤ 9 → 0 ≤ y3.toInt → y3.toInt ≤ 39 → 0 ≤ y4.toInt → 0 ≤ y5.toInt → y5.toInt ≤ 4 → (y1.toInt < (y0.1 0 9).toInt ∨ (y1.toInt = 10 ∧ g = 0)) → x5.toInt + 1 ≤ y5.toInt → x3.toInt ≤ y3.toInt → Ok (fun z => IvM g z.2) (k98 y0 y1 y2 y3 y4 y5)) : Ok (fun z => IvM g z.2) (fX12_mend_174 k98 σ x1 x2 x3 x4 x5) := by
  have hFU : ((FU : Nat) : Int) = 100000 := rfl
  unfold fX12_mend_174
  have : (1 : Int32).toInt = 1 := by decide
  have : ((x5 + 1) : Int32).toInt = (x5 : Int32).toInt + (1 : Int32).toInt := i32_add (by omega) (by omega)
  refine ok_nmI (fun v1 hv1 he1 => ?_)
  have := i32_rng x2
  have := i32_rng x4
  exact hk98 σ x1 x2 x3 x4 v1 hI (by omega) (by omega) (by omega) (by omega) (by omega) (by omega) (by omega) (by omega) (by omega) (by omega)

theorem sX12_mend_98 {g : Nat} (k14 : S2 → Int32 → Int32 → Int32 → Option (Int32 × S2)) : ∀ (n : Nat) (σ : S2) (x1 : Int32) (x2 : Int32) (x3 : Int32) (x4 : Int32) (x5 : Int32), IvM g σ → 0 ≤ x1.toInt → x1.toInt ≤ 9 → 0 ≤ x3.toInt → x3.toInt ≤ 39 → 0 ≤ x4.toInt → 0 ≤ x5.toInt → x5.toInt ≤ 4 → (x1.toInt < (σ.1 0 9).toInt ∨ (x1.toInt = 10 ∧ g = 0)) → 4 - x5.toInt < (n : Int) → (∀ (y0 : S2) (y1 : Int32) (y2 : Int32) (y3 : Int32), IvM g y0 → 0 ≤ y1.toInt → y1.toInt ≤ 9 → 0 ≤ y3.toInt → y3.toInt ≤ 40 → (y1.toInt < (y0.1 0 9).toInt ∨ (y1.toInt = 10 ∧ g = 0)) → x3.toInt + 1 ≤ y3.toInt → Ok (fun z => IvM g z.2) (k14 y0 y1 y2 y3)) → Ok (fun z => IvM g z.2) (fX12_mend_98 k14 n σ x1 x2 x3 x4 x5) := by
  have hFU : ((FU : Nat) : Int) = 100000 := rfl
  intro n
  induction n with
  | zero => intro σ x1 x2 x3 x4 x5 hI p9000 p9001 p9002 p9003 p9004 p9005 p9006 p9007 hm hk14; exfalso; omega
  | succ n ih =>
    intro σ x1 x2 x3 x4 x5 hI p9000 p9001 p9002 p9003 p9004 p9005 p9006 p9007 hm hk14
    unfold fX12_mend_98
    have : 0 ≤ (σ.1 0 55).toInt ∧ (σ.1 0 55).toInt ≤ 4 := hI.1 0 55
    refine ok_le (fun h1 => ?_) (fun h1 => ?_)
    · have : (1 : Int32).toInt = 1 := by decide
      have : ((x3 + 1) : Int32).toInt = (x3 : Int32).toInt + (1 : Int32).toInt := i32_add (by omega) (by omega)
      refine ok_nmI (fun v2 hv2 he2 => ?_)
      have := i32_rng x2
      exact hk14 σ x1 x2 v2 hI (by omega) (by omega) (by omega) (by omega) (by omega) (by omega)
    · refine ok_ck (by omega) (by omega) ?_
      have : 0 ≤ (σ.1 36 (Int32.toNatClampNeg x5)).toInt ∧ (σ.1 36 (Int32.toNatClampNeg x5)).toInt ≤ 11 := hI.1 36 (Int32.toNatClampNeg x5)
      refine ok_nmI (fun v3 hv3 he3 => ?_)
      have : (40 : Int32).toInt = 40 := by decide
      have : ((40 * v3) : Int32).toInt = 40 * (v3 : Int32).toInt := i32_mulL (by omega) (by omega) (by omega)
      have : (((40 * v3) + x3) : Int32).toInt = ((40 * v3) : Int32).toInt + (x3 : Int32).toInt := i32_add (by omega) (by omega)
      refine ok_nmI (fun v4 hv4 he4 => ?_)
      refine ok_ck (by omega) (by omega) ?_
      refine ok_nmI (fun v5 hv5 he5 => ?_)
      refine ok_bi (sX12_isAwake σ v5 hI (by omega) (by omega)) (fun r6 hr6 => ?_)
      obtain ⟨p7, p8⟩ := hr6
      have p7 : 0 ≤ r6.toInt := p7
      have p8 : r6.toInt ≤ 1 := p8
      have : (0 : Int32).toInt = 0 := by decide
      refine ok_eq (fun h9 => ?_) (fun h9 => ?_)
      · have := i32_rng x2
        have := i32_rng x4
        exact sX12_mend_174 (fX12_mend_98 k14 n) σ x1 x2 x3 x4 x5 hI (by omega) (by omega) (by omega) (by omega) (by omega) (by omega) (by omega) (by omega) (fun y0 y1 y2 y3 y4 y5 q0 q1 q2 q3 q4 q5 q6 q7 q8 q9 q10 => ih y0 y1 y2 y3 y4 y5 q0 q1 q2 q3 q4 q5 q6 q7 q8 (by omega) (fun z0 z1 z2 z3 w0 w1 w2 w3 w4 w5 w6 => hk14 z0 z1 z2 z3 w0 w1 w2 w3 w4 w5 (by omega)))
      · refine ok_ck (by omega) (by omega) ?_
        have := i32_rng (σ.1 20 (Int32.toNatClampNeg v4))
        refine ok_nmI (fun v8 hv8 he10 => ?_)
        have := i32_rng x4
        have := i32_rng v8
        refine ok_le (fun h11 => ?_) (fun h11 => ?_)
        · have := i32_rng x2
          exact sX12_mend_174 (fX12_mend_98 k14 n) σ x1 x2 x3 x4 x5 hI (by omega) (by omega) (by omega) (by omega) (by omega) (by omega) (by omega) (by omega) (fun y0 y1 y2 y3 y4 y5 q0 q1 q2 q3 q4 q5 q6 q7 q8 q9 q10 => ih y0 y1 y2 y3 y4 y5 q0 q1 q2 q3 q4 q5 q6 q7 q8 (by omega) (fun z0 z1 z2 z3 w0 w1 w2 w3 w4 w5 w6 => hk14 z0 z1 z2 z3 w0 w1 w2 w3 w4 w5 (by omega)))
        · refine ok_ck (by omega) (by omega) ?_
          refine ok_nmI (fun v9 hv9 he12 => ?_)
          refine ok_bi (sX12_hasRoom σ v9 x3 hI (by omega) (by omega) (by omega) (by omega)) (fun r10 hr13 => ?_)
          obtain ⟨p14, p15⟩ := hr13
          have p14 : 0 ≤ r10.toInt := p14
          have p15 : r10.toInt ≤ 1 := p15
          refine ok_eq (fun h16 => ?_) (fun h16 => ?_)
          · have := i32_rng x2
            exact sX12_mend_174 (fX12_mend_98 k14 n) σ x1 x2 x3 x4 x5 hI (by omega) (by omega) (by omega) (by omega) (by omega) (by omega) (by omega) (by omega) (fun y0 y1 y2 y3 y4 y5 q0 q1 q2 q3 q4 q5 q6 q7 q8 q9 q10 => ih y0 y1 y2 y3 y4 y5 q0 q1 q2 q3 q4 q5 q6 q7 q8 (by omega) (fun z0 z1 z2 z3 w0 w1 w2 w3 w4 w5 w6 => hk14 z0 z1 z2 z3 w0 w1 w2 w3 w4 w5 (by omega)))
          · refine ok_ck (by omega) (by omega) ?_
            refine ok_nm (fun σ12 hs17 => ?_)
            have hI18 : IvM g σ12 := by rw [hs17]; exact IvM.wI hI rfl (i32_rng _).1 (i32_rng _).2
            have : (σ12.1 0 9).toInt = (σ.1 0 9).toInt := by rw [hs17]; rfl
            have : (σ12.1 0 55).toInt = (σ.1 0 55).toInt := by rw [hs17]; rfl
            have := i32_rng x2
            have : (1 : Int32).toInt = 1 := by decide
            have := i32_rng (x2 + 1)
            refine ok_nmI (fun v13 hv13 he19 => ?_)
            have := i32_rng v13
            exact sX12_mend_174 (fX12_mend_98 k14 n) σ12 x1 v13 x3 x4 x5 hI18 (by omega) (by omega) (by omega) (by omega) (by omega) (by omega) (by omega) (by omega) (fun y0 y1 y2 y3 y4 y5 q0 q1 q2 q3 q4 q5 q6 q7 q8 q9 q10 => ih y0 y1 y2 y3 y4 y5 q0 q1 q2 q3 q4 q5 q6 q7 q8 (by omega) (fun z0 z1 z2 z3 w0 w1 w2 w3 w4 w5 w6 => hk14 z0 z1 z2 z3 w0 w1 w2 w3 w4 w5 (by omega)))

theorem sX12_mend_81 {g : Nat} (k28 : S2 → Int32 → Int32 → Int32 → Int32 → Int32 → Option (Int32 × S2)) (σ : S2) (x1 : Int32) (x2 : Int32) (x3 : Int32) (x5 : Int32) (s0 : Int32) (hI : IvM g σ) (p9000 : 0 ≤ x1.toInt) (p9001 : x1.toInt ≤ 9) (p9002 : 0 ≤ x3.toInt) (p9003 : x3.toInt ≤ 39) (p9004 : 0 ≤ x5.toInt) (p9005 : x5.toInt ≤ 11) (p9006 : 0 ≤ s0.toInt) (p9007 : (x1.toInt < (σ.1 0 9).toInt ∨ (x1.toInt = 10 ∧ g = 0))) (hk28 : ∀ (y0 : S2) (y1 : Int32) (y2 : Int32) (y3 : Int32) (y4 : Int32) (y5 : Int32), IvM g y0 → 0 ≤ y1.toInt → y1.toInt ≤ 9 → 0 ≤ y3.toInt → y3.toInt ≤ 39 → 0 ≤ y4.toInt → 0 ≤ y5.toInt → y5.toInt ≤ 12 → (y1.toInt < (y0.1 0 9).toInt ∨ (y1.toInt = 10 ∧ g = 0)) → x5.toInt + 1 ≤ y5.toInt → x3.toInt ≤ y3.toInt → Ok (fun z => IvM g z.2) (k28 y0 y1 y2 y3 y4 y5)) : Ok (fun z => IvM g z.2) (fX12_mend_81 k28 σ x1 x2 x3 x5 s0) := by
  have hFU : ((FU : Nat) : Int) = 100000 := rfl
  unfold fX12_mend_81
  have : (1 : Int32).toInt = 1 := by decide
  have : ((x5 + 1) : Int32).toInt = (x5 : Int32).toInt + (1 : Int32).toInt := i32_add (by omega) (by omega)
  refine ok_nmI (fun v14 hv14 he1 => ?_)
  have := i32_rng x2
  have := i32_rng s0
  exact hk28 σ x1 x2 x3 s0 v14 hI (by omega) (by omega) (by omega) (by omega) (by omega) (by omega) (by omega) (by omega) (by omega) (by omega)

theorem sX12_mend_79 {g : Nat} (k28 : S2 → Int32 → Int32 → Int32 → Int32 → Int32 → Option (Int32 × S2)) (σ : S2) (x1 : Int32) (x2 : Int32) (x3 : Int32) (x4 : Int32) (x5 : Int32) (hI : IvM g σ) (p9000 : 0 ≤ x1.toInt) (p9001 : x1.toInt ≤ 9) (p9002 : 0 ≤ x3.toInt) (p9003 : x3.toInt ≤ 39) (p9004 : 0 ≤ x4.toInt) (p9005 : 0 ≤ x5.toInt) (p9006 : x5.toInt ≤ 11) (p9007 : (x1.toInt < (σ.1 0 9).toInt ∨ (x1.toInt = 10 ∧ g = 0))) (hk28 : ∀ (y0 : S2) (y1 : Int32) (y2 : Int32) (y3 : Int32) (y4 : Int32) (y5 : Int32), IvM g y0 → 0 ≤ y1.toInt → y1.toInt ≤ 9 → 0 ≤ y3.toInt → y3.toInt ≤ 39 → 0 ≤ y4.toInt → 0 ≤ y5.toInt → y5.toInt ≤ 12 → (y1.toInt < (y0.1 0 9).toInt ∨ (y1.toInt = 10 ∧ g = 0)) → x5.toInt + 1 ≤ y5.toInt → x3.toInt ≤ y3.toInt → Ok (fun z => IvM g z.2) (k28 y0 y1 y2 y3 y4 y5)) : Ok (fun z => IvM g z.2) (fX12_mend_79 k28 σ x1 x2 x3 x4 x5) := by
  have hFU : ((FU : Nat) : Int) = 100000 := rfl
  unfold fX12_mend_79
  have := i32_rng x2
  have := i32_rng x4
  exact sX12_mend_81 k28 σ x1 x2 x3 x5 x4 hI (by omega) (by omega) (by omega) (by omega) (by omega) (by omega) (by omega) (by omega) (fun y0 y1 y2 y3 y4 y5 q0 q1 q2 q3 q4 q5 q6 q7 q8 q9 q10 => hk28 y0 y1 y2 y3 y4 y5 q0 q1 q2 q3 q4 q5 q6 q7 q8 (by omega) (by omega))

theorem sX12_mend_28 {g : Nat} (k14 : S2 → Int32 → Int32 → Int32 → Option (Int32 × S2)) : ∀ (n : Nat) (σ : S2) (x1 : Int32) (x2 : Int32) (x3 : Int32) (x4 : Int32) (x5 : Int32), IvM g σ → 0 ≤ x1.toInt → x1.toInt ≤ 9 → 0 ≤ x3.toInt → x3.toInt ≤ 39 → 0 ≤ x4.toInt → 0 ≤ x5.toInt → x5.toInt ≤ 12 → (x1.toInt < (σ.1 0 9).toInt ∨ (x1.toInt = 10 ∧ g = 0)) → 12 - x5.toInt < (n : Int) → (∀ (y0 : S2) (y1 : Int32) (y2 : Int32) (y3 : Int32), IvM g y0 → 0 ≤ y1.toInt → y1.toInt ≤ 9 → 0 ≤ y3.toInt → y3.toInt ≤ 40 → (y1.toInt < (y0.1 0 9).toInt ∨ (y1.toInt = 10 ∧ g = 0)) → x3.toInt + 1 ≤ y3.toInt → Ok (fun z => IvM g z.2) (k14 y0 y1 y2 y3)) → Ok (fun z => IvM g z.2) (fX12_mend_28 k14 n σ x1 x2 x3 x4 x5) := by
  have hFU : ((FU : Nat) : Int) = 100000 := rfl
  intro n
  induction n with
  | zero => intro σ x1 x2 x3 x4 x5 hI p9000 p9001 p9002 p9003 p9004 p9005 p9006 p9007 hm hk14; exfalso; omega
  | succ n ih =>
    intro σ x1 x2 x3 x4 x5 hI p9000 p9001 p9002 p9003 p9004 p9005 p9006 p9007 hm hk14
    unfold fX12_mend_28
    have : 0 ≤ (σ.1 0 3).toInt ∧ (σ.1 0 3).toInt ≤ 12 := hI.1 0 3
    refine ok_le (fun h1 => ?_) (fun h1 => ?_)
    · have : 0 ≤ (σ.1 0 9).toInt ∧ (σ.1 0 9).toInt ≤ 10 := hI.1 0 9
      refine ok_bs (sX12_chooseName (σ.1 0 9).toInt σ x1 x3 hI (by omega) (by omega) (by omega) (by omega) (by omega) (by omega)) (fun r15 σ16 hr2 => ?_)
      obtain ⟨p3, p4⟩ := hr2
      have p3 : IvM g σ16 := p3
      have p4 : (σ16.1 0 9).toInt = (σ.1 0 9).toInt := p4
      have := i32_rng x2
      have := i32_rng x4
      have : (0 : Int32).toInt = 0 := by decide
      exact sX12_mend_98 k14 FU σ16 x1 x2 x3 x4 0 p3 (by omega) (by omega) (by omega) (by omega) (by omega) (by omega) (by omega) (by omega) (by omega) (fun y0 y1 y2 y3 q0 q1 q2 q3 q4 q5 q6 => hk14 y0 y1 y2 y3 q0 q1 q2 q3 q4 q5 (by omega))
    · refine ok_ck (by omega) (by omega) ?_
      have : 0 ≤ (σ.1 7 (Int32.toNatClampNeg x5)).toInt ∧ (σ.1 7 (Int32.toNatClampNeg x5)).toInt ≤ 1 := hI.1 7 (Int32.toNatClampNeg x5)
      refine ok_nmI (fun v18 hv18 he5 => ?_)
      have : (0 : Int32).toInt = 0 := by decide
      refine ok_eq (fun h6 => ?_) (fun h6 => ?_)
      · have : (40 : Int32).toInt = 40 := by decide
        have : ((40 * x5) : Int32).toInt = 40 * (x5 : Int32).toInt := i32_mulL (by omega) (by omega) (by omega)
        have : (((40 * x5) + x3) : Int32).toInt = ((40 * x5) : Int32).toInt + (x3 : Int32).toInt := i32_add (by omega) (by omega)
        refine ok_ck (by omega) (by omega) ?_
        have := i32_rng (σ.1 20 (Int32.toNatClampNeg ((40 * x5) + x3)))
        refine ok_nmI (fun v19 hv19 he7 => ?_)
        have := i32_rng v19
        have := i32_rng x4
        refine ok_le (fun h8 => ?_) (fun h8 => ?_)
        · have := i32_rng x2
          exact sX12_mend_79 (fX12_mend_28 k14 n) σ x1 x2 x3 x4 x5 hI (by omega) (by omega) (by omega) (by omega) (by omega) (by omega) (by omega) (by omega) (fun y0 y1 y2 y3 y4 y5 q0 q1 q2 q3 q4 q5 q6 q7 q8 q9 q10 => ih y0 y1 y2 y3 y4 y5 q0 q1 q2 q3 q4 q5 q6 q7 q8 (by omega) (fun z0 z1 z2 z3 w0 w1 w2 w3 w4 w5 w6 => hk14 z0 z1 z2 z3 w0 w1 w2 w3 w4 w5 (by omega)))
        · refine ok_ck (by omega) (by omega) ?_
          refine ok_nmI (fun v20 hv20 he9 => ?_)
          have := i32_rng x2
          have := i32_rng v20
          exact sX12_mend_81 (fX12_mend_28 k14 n) σ x1 x2 x3 x5 v20 hI (by omega) (by omega) (by omega) (by omega) (by omega) (by omega) (by omega) (by omega) (fun y0 y1 y2 y3 y4 y5 q0 q1 q2 q3 q4 q5 q6 q7 q8 q9 q10 => ih y0 y1 y2 y3 y4 y5 q0 q1 q2 q3 q4 q5 q6 q7 q8 (by omega) (fun z0 z1 z2 z3 w0 w1 w2 w3 w4 w5 w6 => hk14 z0 z1 z2 z3 w0 w1 w2 w3 w4 w5 (by omega)))
      · have := i32_rng x2
        have := i32_rng x4
        exact sX12_mend_79 (fX12_mend_28 k14 n) σ x1 x2 x3 x4 x5 hI (by omega) (by omega) (by omega) (by omega) (by omega) (by omega) (by omega) (by omega) (fun y0 y1 y2 y3 y4 y5 q0 q1 q2 q3 q4 q5 q6 q7 q8 q9 q10 => ih y0 y1 y2 y3 y4 y5 q0 q1 q2 q3 q4 q5 q6 q7 q8 (by omega) (fun z0 z1 z2 z3 w0 w1 w2 w3 w4 w5 w6 => hk14 z0 z1 z2 z3 w0 w1 w2 w3 w4 w5 (by omega)))

theorem sX12_mend_14 {g : Nat} : ∀ (n : Nat) (σ : S2) (x1 : Int32) (x2 : Int32) (x3 : Int32), IvM g σ → 0 ≤ x1.toInt → x1.toInt ≤ 9 → 0 ≤ x3.toInt → x3.toInt ≤ 40 → (x1.toInt < (σ.1 0 9).toInt ∨ (x1.toInt = 10 ∧ g = 0)) → 40 - x3.toInt < (n : Int) → Ok (fun z => IvM g z.2) (fX12_mend_14 n σ x1 x2 x3) := by
  have hFU : ((FU : Nat) : Int) = 100000 := rfl
  intro n
  induction n with
  | zero => intro σ x1 x2 x3 hI p9000 p9001 p9002 p9003 p9004 hm; exfalso; omega
  | succ n ih =>
    intro σ x1 x2 x3 hI p9000 p9001 p9002 p9003 p9004 hm
    unfold fX12_mend_14
    have : 0 ≤ (σ.1 0 0).toInt ∧ (σ.1 0 0).toInt ≤ 40 := hI.1 0 0
    refine ok_le (fun h1 => ?_) (fun h1 => ?_)
    · have := i32_rng x2
      exact ok_some hI
    · have := i32_rng x2
      have : (0 : Int32).toInt = 0 := by decide
      exact sX12_mend_28 (fX12_mend_14 n) FU σ x1 x2 x3 0 0 hI (by omega) (by omega) (by omega) (by omega) (by omega) (by omega) (by omega) (by omega) (by omega) (fun y0 y1 y2 y3 q0 q1 q2 q3 q4 q5 q6 => ih y0 y1 y2 y3 q0 q1 q2 q3 q4 q5 (by omega))

theorem sX12_mend_0 {g : Nat} (σ : S2) (x1 : Int32) (hI : IvM g σ)   : Ok (fun z => IvM g z.2) (fX12_mend_0 σ x1) := by
  have hFU : ((FU : Nat) : Int) = 100000 := rfl
  unfold fX12_mend_0
  have := i32_rng x1
  refine ok_bi (sX12_isTable σ x1 hI) (fun r21 hr1 => ?_)
  obtain ⟨p2, p3, p4⟩ := hr1
  have p2 : 0 ≤ r21.toInt := p2
  have p3 : r21.toInt ≤ 1 := p3
  have p4 : r21.toInt ≠ 0 → 0 ≤ x1.toInt ∧ x1.toInt < (σ.1 0 9).toInt := p4
  have : 0 ≤ (σ.1 0 9).toInt ∧ (σ.1 0 9).toInt ≤ 10 := hI.1 0 9
  have : (0 : Int32).toInt = 0 := by decide
  refine ok_eq (fun h5 => ?_) (fun h5 => ?_)
  · have : ((-1) : Int32).toInt = (-1) := by decide
    exact ok_some hI
  · exact sX12_mend_14 FU σ x1 0 0 hI (by omega) (by omega) (by omega) (by omega) (by omega) (by omega)

theorem sX12_mend {g : Nat} (σ : S2) (a1 : Int32) (hI : IvM g σ)   : Ok (fun z => IvM g z.2) (fX12_mend σ a1) := by
  unfold fX12_mend
  exact sX12_mend_0 σ a1 hI

theorem sX12_leafOf_5 {g : Nat} : ∀ (n : Nat) (σ : S2) (x1 : Int32) (x3 : Int32) (x4 : Int32), IvM g σ → 0 ≤ x1.toInt → x1.toInt ≤ 11 → 0 ≤ x4.toInt → x4.toInt ≤ 47 → 47 - x4.toInt < (n : Int) → Ok (fun z => True) (fX12_leafOf_5 n σ x1 x3 x4) := by
  have hFU : ((FU : Nat) : Int) = 100000 := rfl
  intro n
  induction n with
  | zero => intro σ x1 x3 x4 hI p9000 p9001 p9002 p9003 hm; exfalso; omega
  | succ n ih =>
    intro σ x1 x3 x4 hI p9000 p9001 p9002 p9003 hm
    unfold fX12_leafOf_5
    have : 0 ≤ (σ.1 0 0).toInt ∧ (σ.1 0 0).toInt ≤ 40 := hI.1 0 0
    refine ok_le (fun h1 => ?_) (fun h1 => ?_)
    · have := i32_rng x3
      exact ok_some trivial
    · have : (40 : Int32).toInt = 40 := by decide
      have : ((40 * x1) : Int32).toInt = 40 * (x1 : Int32).toInt := i32_mulL (by omega) (by omega) (by omega)
      have : (((40 * x1) + x4) : Int32).toInt = ((40 * x1) : Int32).toInt + (x4 : Int32).toInt := i32_add (by omega) (by omega)
      refine ok_ck (by omega) (by omega) ?_
      have := i32_rng (σ.1 20 (Int32.toNatClampNeg ((40 * x1) + x4)))
      refine ok_nmI (fun v1 hv1 he2 => ?_)
      have := i32_rng x3
      have : (1 : Int32).toInt = 1 := by decide
      have : ((x4 + 1) : Int32).toInt = (x4 : Int32).toInt + (1 : Int32).toInt := i32_add (by omega) (by omega)
      have := i32_rng v1
      have := i32_rng ((x4 + 1) * v1)
      have := i32_rng (x3 + ((x4 + 1) * v1))
      refine ok_nmI (fun v2 hv2 he3 => ?_)
      have : (8 : Int32).toInt = 8 := by decide
      have : ((x4 + 8) : Int32).toInt = (x4 : Int32).toInt + (8 : Int32).toInt := i32_add (by omega) (by omega)
      refine ok_nmI (fun v3 hv3 he4 => ?_)
      have := i32_rng v2
      exact ih σ x1 v2 v3 hI (by omega) (by omega) (by omega) (by omega) (by omega)

theorem sX12_leafOf_0 {g : Nat} (σ : S2) (x1 : Int32) (x2 : Int32) (hI : IvM g σ) (p9000 : 0 ≤ x1.toInt) (p9001 : x1.toInt ≤ 11) (p9002 : 0 ≤ x2.toInt) (p9003 : x2.toInt ≤ 14)  : Ok (fun z => True) (fX12_leafOf_0 σ x1 x2) := by
  have hFU : ((FU : Nat) : Int) = 100000 := rfl
  unfold fX12_leafOf_0
  have : (0 : Int32).toInt = 0 := by decide
  exact sX12_leafOf_5 FU σ x1 0 x2 hI (by omega) (by omega) (by omega) (by omega) (by omega)

theorem sX12_leafOf {g : Nat} (σ : S2) (a1 : Int32) (a2 : Int32) (hI : IvM g σ) (p9000 : 0 ≤ a1.toInt) (p9001 : a1.toInt ≤ 11) (p9002 : 0 ≤ a2.toInt) (p9003 : a2.toInt ≤ 14)  : Ok (fun z => True) (fX12_leafOf σ a1 a2) := by
  unfold fX12_leafOf
  exact sX12_leafOf_0 σ a1 a2 hI (by assumption) (by assumption) (by assumption) (by assumption)

theorem sX12_areUnlike_6 {g : Nat} : ∀ (n : Nat) (σ : S2) (x1 : Int32) (x2 : Int32) (x3 : Int32) (x4 : Int32) (x5 : Int32) (x6 : Int32), IvM g σ → 0 ≤ x1.toInt → x1.toInt ≤ 11 → 0 ≤ x2.toInt → x2.toInt ≤ 11 → 0 ≤ x3.toInt → x3.toInt ≤ 7 → 1 ≤ x4.toInt → x4.toInt ≤ 8 → 0 ≤ x6.toInt → x6.toInt ≤ 15 → 15 - x6.toInt < (n : Int) → Ok (fun z => 0 ≤ z.toInt ∧ z.toInt ≤ 1) (fX12_areUnlike_6 n σ x1 x2 x3 x4 x5 x6) := by
  have hFU : ((FU : Nat) : Int) = 100000 := rfl
  intro n
  induction n with
  | zero => intro σ x1 x2 x3 x4 x5 x6 hI p9000 p9001 p9002 p9003 p9004 p9005 p9006 p9007 p9008 p9009 hm; exfalso; omega
  | succ n ih =>
    intro σ x1 x2 x3 x4 x5 x6 hI p9000 p9001 p9002 p9003 p9004 p9005 p9006 p9007 p9008 p9009 hm
    unfold fX12_areUnlike_6
    have : ((x3 + x4) : Int32).toInt = (x3 : Int32).toInt + (x4 : Int32).toInt := i32_add (by omega) (by omega)
    refine ok_le (fun h1 => ?_) (fun h1 => ?_)
    · have := i32_rng x5
      have : (0 : Int32).toInt = 0 := by decide
      refine ok_eq (fun h2 => ?_) (fun h2 => ?_)
      · exact ok_some ⟨by show 0 ≤ (0 : Int32).toInt; omega, by show (0 : Int32).toInt ≤ 1; omega⟩
      · have : (1 : Int32).toInt = 1 := by decide
        exact ok_some ⟨by show 0 ≤ (1 : Int32).toInt; omega, by show (1 : Int32).toInt ≤ 1; omega⟩
    · refine ok_bi (sX12_leafOf σ x1 x6 hI (by omega) (by omega) (by omega) (by omega)) (fun r1 hr3 => ?_)
      refine ok_bi (sX12_leafOf σ x2 x6 hI (by omega) (by omega) (by omega) (by omega)) (fun r3 hr4 => ?_)
      have := i32_rng x5
      have := i32_rng r1
      have := i32_rng r3
      have := i32_rng (r1 - r3)
      have := i32_rng (x5 + (r1 - r3))
      refine ok_nmI (fun v5 hv5 he5 => ?_)
      have : (1 : Int32).toInt = 1 := by decide
      have : ((x6 + 1) : Int32).toInt = (x6 : Int32).toInt + (1 : Int32).toInt := i32_add (by omega) (by omega)
      refine ok_nmI (fun v6 hv6 he6 => ?_)
      have := i32_rng v5
      exact ih σ x1 x2 x3 x4 v5 v6 hI (by omega) (by omega) (by omega) (by omega) (by omega) (by omega) (by omega) (by omega) (by omega) (by omega) (by omega)

theorem sX12_areUnlike_0 {g : Nat} (σ : S2) (x1 : Int32) (x2 : Int32) (x3 : Int32) (x4 : Int32) (hI : IvM g σ) (p9000 : 0 ≤ x1.toInt) (p9001 : x1.toInt ≤ 11) (p9002 : 0 ≤ x2.toInt) (p9003 : x2.toInt ≤ 11) (p9004 : 0 ≤ x3.toInt) (p9005 : x3.toInt ≤ 7) (p9006 : 1 ≤ x4.toInt) (p9007 : x4.toInt ≤ 8)  : Ok (fun z => 0 ≤ z.toInt ∧ z.toInt ≤ 1) (fX12_areUnlike_0 σ x1 x2 x3 x4) := by
  have hFU : ((FU : Nat) : Int) = 100000 := rfl
  unfold fX12_areUnlike_0
  have : (0 : Int32).toInt = 0 := by decide
  exact sX12_areUnlike_6 FU σ x1 x2 x3 x4 0 x3 hI (by omega) (by omega) (by omega) (by omega) (by omega) (by omega) (by omega) (by omega) (by omega) (by omega) (by omega)

theorem sX12_areUnlike {g : Nat} (σ : S2) (a1 : Int32) (a2 : Int32) (a3 : Int32) (a4 : Int32) (hI : IvM g σ) (p9000 : 0 ≤ a1.toInt) (p9001 : a1.toInt ≤ 11) (p9002 : 0 ≤ a2.toInt) (p9003 : a2.toInt ≤ 11) (p9004 : 0 ≤ a3.toInt) (p9005 : a3.toInt ≤ 7) (p9006 : 1 ≤ a4.toInt) (p9007 : a4.toInt ≤ 8)  : Ok (fun z => 0 ≤ z.toInt ∧ z.toInt ≤ 1) (fX12_areUnlike σ a1 a2 a3 a4) := by
  unfold fX12_areUnlike
  exact sX12_areUnlike_0 σ a1 a2 a3 a4 hI (by assumption) (by assumption) (by assumption) (by assumption) (by assumption) (by assumption) (by assumption) (by assumption)

theorem sX12_wordsBelow_0 {g : Nat} (r : Int) (qX12_wordsBelow : S2 → Int32 → Int32 → Int32 → Int32 → Option Int32) (hqX12_wordsBelow : ∀ (σ : S2) (a1 : Int32) (a2 : Int32) (a3 : Int32) (a4 : Int32), IvM g σ → 0 ≤ a1.toInt → a1.toInt ≤ 11 → 0 ≤ a2.toInt → a2.toInt ≤ 11 → 0 ≤ a3.toInt → a3.toInt ≤ 7 → 1 ≤ a4.toInt → a4.toInt ≤ 8 → a3.toInt + a4.toInt ≤ 8 → 0 ≤ (r - 1) → (a4.toInt = 1 ∨ a4.toInt = 2 ∧ 1 ≤ (r - 1) ∨ a4.toInt = 4 ∧ 2 ≤ (r - 1) ∨ a4.toInt = 8 ∧ 3 ≤ (r - 1)) → Ok (fun z => True) (qX12_wordsBelow σ a1 a2 a3 a4)) (σ : S2) (x1 : Int32) (x2 : Int32) (x3 : Int32) (x4 : Int32) (hI : IvM g σ) (p9000 : 0 ≤ x1.toInt) (p9001 : x1.toInt ≤ 11) (p9002 : 0 ≤ x2.toInt) (p9003 : x2.toInt ≤ 11) (p9004 : 0 ≤ x3.toInt) (p9005 : x3.toInt ≤ 7) (p9006 : 1 ≤ x4.toInt) (p9007 : x4.toInt ≤ 8) (p9008 : x3.toInt + x4.toInt ≤ 8) (p9009 : 0 ≤ r) (p9010 : (x4.toInt = 1 ∨ x4.toInt = 2 ∧ 1 ≤ r ∨ x4.toInt = 4 ∧ 2 ≤ r ∨ x4.toInt = 8 ∧ 3 ≤ r))  : Ok (fun z => True) (fX12_wordsBelow_0 qX12_wordsBelow σ x1 x2 x3 x4) := by
  have hFU : ((FU : Nat) : Int) = 100000 := rfl
  unfold fX12_wordsBelow_0
  have : (1 : Int32).toInt = 1 := by decide
  refine ok_eq (fun h1 => ?_) (fun h1 => ?_)
  · have : (0 : Int32).toInt = 0 := by decide
    exact ok_some trivial
  · refine ok_bi (sX12_areUnlike σ x1 x2 x3 x4 hI (by omega) (by omega) (by omega) (by omega) (by omega) (by omega) (by omega) (by omega)) (fun r1 hr2 => ?_)
    obtain ⟨p3, p4⟩ := hr2
    have p3 : 0 ≤ r1.toInt := p3
    have p4 : r1.toInt ≤ 1 := p4
    have : (0 : Int32).toInt = 0 := by decide
    refine ok_eq (fun h5 => ?_) (fun h5 => ?_)
    · exact ok_some trivial
    · have : (2 : Int32).toInt = 2 := by decide
      refine ok_dz (by omega) ?_
      have : ((x4 / 2) : Int32).toInt = (x4 : Int32).toInt / 2 := i32_div (by omega) (by omega) (by omega)
      refine ok_bi (hqX12_wordsBelow σ x1 x2 x3 (x4 / 2) hI (by omega) (by omega) (by omega) (by omega) (by omega) (by omega) (by omega) (by omega) (by omega) (by omega) (by omega)) (fun r4 hr6 => ?_)
      refine ok_dz (by omega) ?_
      refine ok_dz (by omega) ?_
      have : ((x3 + (x4 / 2)) : Int32).toInt = (x3 : Int32).toInt + ((x4 / 2) : Int32).toInt := i32_add (by omega) (by omega)
      refine ok_bi (hqX12_wordsBelow σ x1 x2 (x3 + (x4 / 2)) (x4 / 2) hI (by omega) (by omega) (by omega) (by omega) (by omega) (by omega) (by omega) (by omega) (by omega) (by omega) (by omega)) (fun r8 hr7 => ?_)
      have := i32_rng r4
      have := i32_rng (2 + r4)
      have := i32_rng r8
      have := i32_rng ((2 + r4) + r8)
      exact ok_some trivial

theorem sGX12_wordsBelow {g : Nat} : ∀ d : Nat, (∀ (r : Int) (σ : S2) (a1 : Int32) (a2 : Int32) (a3 : Int32) (a4 : Int32), r < (d : Int) → IvM g σ → 0 ≤ a1.toInt → a1.toInt ≤ 11 → 0 ≤ a2.toInt → a2.toInt ≤ 11 → 0 ≤ a3.toInt → a3.toInt ≤ 7 → 1 ≤ a4.toInt → a4.toInt ≤ 8 → a3.toInt + a4.toInt ≤ 8 → 0 ≤ r → (a4.toInt = 1 ∨ a4.toInt = 2 ∧ 1 ≤ r ∨ a4.toInt = 4 ∧ 2 ≤ r ∨ a4.toInt = 8 ∧ 3 ≤ r) → Ok (fun z => True) (GX12_wordsBelow d 0 σ a1 a2 a3 a4)) := by
  intro d
  induction d with
  | zero => exact (fun r σ a1 a2 a3 a4 hd hI p0 p1 p2 p3 p4 p5 p6 p7 p8 p9 p10 => by exfalso; omega)
  | succ d ih =>
    exact (fun r σ a1 a2 a3 a4 hd hI p0 p1 p2 p3 p4 p5 p6 p7 p8 p9 p10 => sX12_wordsBelow_0  r (GX12_wordsBelow d 0) (fun σ a1 a2 a3 a4 hI p0 p1 p2 p3 p4 p5 p6 p7 p8 p9 p10 => ih (r - 1) σ a1 a2 a3 a4 (by omega) hI p0 p1 p2 p3 p4 p5 p6 p7 p8 p9 p10) σ a1 a2 a3 a4 hI p0 p1 p2 p3 p4 p5 p6 p7 p8 p9 p10)
theorem sX12_wordsBelow {g : Nat}  (σ : S2) (a1 : Int32) (a2 : Int32) (a3 : Int32) (a4 : Int32) (hI : IvM g σ) (p9000 : 0 ≤ a1.toInt) (p9001 : a1.toInt ≤ 11) (p9002 : 0 ≤ a2.toInt) (p9003 : a2.toInt ≤ 11) (p9004 : 0 ≤ a3.toInt) (p9005 : a3.toInt ≤ 7) (p9006 : 1 ≤ a4.toInt) (p9007 : a4.toInt ≤ 8) (p9008 : a3.toInt + a4.toInt ≤ 8) (p9009 : a4.toInt = 8) : Ok (fun z => True) (fX12_wordsBelow σ a1 a2 a3 a4) := by
  exact (sGX12_wordsBelow 24) 23  σ a1 a2 a3 a4 (by decide) hI p9000 p9001 p9002 p9003 p9004 p9005 p9006 p9007 p9008 (by omega) (by omega)

theorem sX12_trees_80 {g : Nat} (k54 : S2 → Int32 → Int32 → Int32 → Int32 → Option Int32) (σ : S2) (x1 : Int32) (x2 : Int32) (x5 : Int32) (s0 : Int32) (s1 : Int32) (hI : IvM g σ) (p9000 : 0 ≤ x1.toInt) (p9001 : x1.toInt ≤ 11) (p9002 : 0 ≤ x2.toInt) (p9003 : x2.toInt ≤ 11) (p9004 : 0 ≤ x5.toInt) (p9005 : x5.toInt ≤ 7) (p9006 : 0 ≤ s0.toInt) (p9007 : s0.toInt ≤ 1) (hk54 : ∀ (y0 : S2) (y1 : Int32) (y2 : Int32) (y3 : Int32) (y4 : Int32), IvM g y0 → 0 ≤ y1.toInt → y1.toInt ≤ 11 → 0 ≤ y2.toInt → y2.toInt ≤ 11 → 0 ≤ y4.toInt → y4.toInt ≤ 8 → x5.toInt + 1 ≤ y4.toInt → Ok (fun z => True) (k54 y0 y1 y2 y3 y4)) : Ok (fun z => True) (fX12_trees_80 k54 σ x1 x2 x5 s0 s1) := by
  have hFU : ((FU : Nat) : Int) = 100000 := rfl
  unfold fX12_trees_80
  have := i32_rng s1
  have := i32_rng (s1 + s0)
  refine ok_nmI (fun v1 hv1 he1 => ?_)
  have : (1 : Int32).toInt = 1 := by decide
  have : ((x5 + 1) : Int32).toInt = (x5 : Int32).toInt + (1 : Int32).toInt := i32_add (by omega) (by omega)
  refine ok_nmI (fun v2 hv2 he2 => ?_)
  have := i32_rng v1
  exact hk54 σ x1 x2 v1 v2 hI (by omega) (by omega) (by omega) (by omega) (by omega) (by omega) (by omega)

theorem sX12_trees_54 {g : Nat} : ∀ (n : Nat) (σ : S2) (x1 : Int32) (x2 : Int32) (x4 : Int32) (x5 : Int32), IvM g σ → 0 ≤ x1.toInt → x1.toInt ≤ 11 → 0 ≤ x2.toInt → x2.toInt ≤ 11 → 0 ≤ x5.toInt → x5.toInt ≤ 8 → 8 - x5.toInt < (n : Int) → Ok (fun z => True) (fX12_trees_54 n σ x1 x2 x4 x5) := by
  have hFU : ((FU : Nat) : Int) = 100000 := rfl
  intro n
  induction n with
  | zero => intro σ x1 x2 x4 x5 hI p9000 p9001 p9002 p9003 p9004 p9005 hm; exfalso; omega
  | succ n ih =>
    intro σ x1 x2 x4 x5 hI p9000 p9001 p9002 p9003 p9004 p9005 hm
    unfold fX12_trees_54
    have : (8 : Int32).toInt = 8 := by decide
    refine ok_le (fun h1 => ?_) (fun h1 => ?_)
    · have := i32_rng x4
      exact ok_some trivial
    · have : (1 : Int32).toInt = 1 := by decide
      refine ok_bi (sX12_areUnlike σ x1 x2 x5 1 hI (by omega) (by omega) (by omega) (by omega) (by omega) (by omega) (by omega) (by omega)) (fun r3 hr2 => ?_)
      obtain ⟨p3, p4⟩ := hr2
      have p3 : 0 ≤ r3.toInt := p3
      have p4 : r3.toInt ≤ 1 := p4
      have : (0 : Int32).toInt = 0 := by decide
      refine ok_eq (fun h5 => ?_) (fun h5 => ?_)
      · have := i32_rng x4
        exact sX12_trees_80 (fX12_trees_54 n) σ x1 x2 x5 0 x4 hI (by omega) (by omega) (by omega) (by omega) (by omega) (by omega) (by omega) (by omega) (fun y0 y1 y2 y3 y4 q0 q1 q2 q3 q4 q5 q6 q7 => ih y0 y1 y2 y3 y4 q0 q1 q2 q3 q4 q5 q6 (by omega))
      · have := i32_rng x4
        exact sX12_trees_80 (fX12_trees_54 n) σ x1 x2 x5 1 x4 hI (by omega) (by omega) (by omega) (by omega) (by omega) (by omega) (by omega) (by omega) (fun y0 y1 y2 y3 y4 q0 q1 q2 q3 q4 q5 q6 q7 => ih y0 y1 y2 y3 y4 q0 q1 q2 q3 q4 q5 q6 (by omega))

theorem sX12_trees_0 {g : Nat} (σ : S2) (x1 : Int32) (x2 : Int32) (x3 : Int32) (hI : IvM g σ)   : Ok (fun z => True) (fX12_trees_0 σ x1 x2 x3) := by
  have hFU : ((FU : Nat) : Int) = 100000 := rfl
  unfold fX12_trees_0
  have := i32_rng x1
  refine ok_bi (sX12_isKeeper σ x1 hI) (fun r5 hr1 => ?_)
  obtain ⟨p2, p3, p4⟩ := hr1
  have p2 : 0 ≤ r5.toInt := p2
  have p3 : r5.toInt ≤ 1 := p3
  have p4 : r5.toInt ≠ 0 → 0 ≤ x1.toInt ∧ x1.toInt < (σ.1 0 3).toInt := p4
  have : 0 ≤ (σ.1 0 3).toInt ∧ (σ.1 0 3).toInt ≤ 12 := hI.1 0 3
  have : (0 : Int32).toInt = 0 := by decide
  refine ok_eq (fun h5 => ?_) (fun h5 => ?_)
  · have : ((-1) : Int32).toInt = (-1) := by decide
    exact ok_some trivial
  · have := i32_rng x2
    refine ok_bi (sX12_isKeeper σ x2 hI) (fun r7 hr6 => ?_)
    obtain ⟨p7, p8, p9⟩ := hr6
    have p7 : 0 ≤ r7.toInt := p7
    have p8 : r7.toInt ≤ 1 := p8
    have p9 : r7.toInt ≠ 0 → 0 ≤ x2.toInt ∧ x2.toInt < (σ.1 0 3).toInt := p9
    refine ok_eq (fun h10 => ?_) (fun h10 => ?_)
    · have : ((-1) : Int32).toInt = (-1) := by decide
      exact ok_some trivial
    · refine ok_eq (fun h11 => ?_) (fun h11 => ?_)
      · have : ((-1) : Int32).toInt = (-1) := by decide
        exact ok_some trivial
      · have := i32_rng x3
        have : (1 : Int32).toInt = 1 := by decide
        refine ok_bi (sX12_in σ x3 0 1 hI (by omega) (by omega) (by omega) (by omega)) (fun r9 hr12 => ?_)
        obtain ⟨p13, p14, p15⟩ := hr12
        have p13 : 0 ≤ r9.toInt := p13
        have p14 : r9.toInt ≤ 1 := p14
        have p15 : r9.toInt ≠ 0 → (0 : Int32).toInt ≤ x3.toInt ∧ x3.toInt ≤ (1 : Int32).toInt := p15
        refine ok_eq (fun h16 => ?_) (fun h16 => ?_)
        · have : ((-1) : Int32).toInt = (-1) := by decide
          exact ok_some trivial
        · refine ok_eq (fun h17 => ?_) (fun h17 => ?_)
          · have : (8 : Int32).toInt = 8 := by decide
            refine ok_bi (sX12_wordsBelow σ x1 x2 0 8 hI (by omega) (by omega) (by omega) (by omega) (by omega) (by omega) (by omega) (by omega) (by omega) (by omega)) (fun r11 hr18 => ?_)
            have := i32_rng r11
            have := i32_rng (1 + r11)
            exact ok_some trivial
          · exact sX12_trees_54 FU σ x1 x2 0 0 hI (by omega) (by omega) (by omega) (by omega) (by omega) (by omega) (by omega)

theorem sX12_trees {g : Nat} (σ : S2) (a1 : Int32) (a2 : Int32) (a3 : Int32) (hI : IvM g σ)   : Ok (fun z => True) (fX12_trees σ a1 a2 a3) := by
  unfold fX12_trees
  exact sX12_trees_0 σ a1 a2 a3 hI

theorem sX12_noon_46 {g : Nat} : ∀ (n : Nat) (σ : S2) (x2 : Int32) (x3 : Int32) (x4 : Int32) (x5 : Int32), IvM g σ → 0 ≤ x2.toInt → x2.toInt ≤ 9999 → 0 ≤ x3.toInt → x3.toInt ≤ 9999 → 0 ≤ x4.toInt → x4.toInt ≤ 12 → 1 ≤ x5.toInt → x5.toInt ≤ 13 → 13 - x5.toInt < (n : Int) → Ok (fun z => (-2) ≤ z.toInt ∧ z.toInt ≤ 12) (fX12_noon_46 n σ x2 x3 x4 x5) := by
  have hFU : ((FU : Nat) : Int) = 100000 := rfl
  intro n
  induction n with
  | zero => intro σ x2 x3 x4 x5 hI p9000 p9001 p9002 p9003 p9004 p9005 p9006 p9007 hm; exfalso; omega
  | succ n ih =>
    intro σ x2 x3 x4 x5 hI p9000 p9001 p9002 p9003 p9004 p9005 p9006 p9007 hm
    unfold fX12_noon_46
    refine ok_lt (fun h1 => ?_) (fun h1 => ?_)
    · have : ((-2) : Int32).toInt = (-2) := by decide
      exact ok_some ⟨by show (-2) ≤ ((-2) : Int32).toInt; omega, by show ((-2) : Int32).toInt ≤ 12; omega⟩
    · refine ok_dz (by omega) ?_
      have : ((x2 + x5) : Int32).toInt = (x2 : Int32).toInt + (x5 : Int32).toInt := i32_add (by omega) (by omega)
      have : (1 : Int32).toInt = 1 := by decide
      have : (((x2 + x5) - 1) : Int32).toInt = ((x2 + x5) : Int32).toInt - (1 : Int32).toInt := i32_sub (by omega) (by omega)
      have : ((((x2 + x5) - 1) / x5) : Int32).toInt = (((x2 + x5) - 1) : Int32).toInt / (x5 : Int32).toInt := i32_div rfl (by omega) (by omega)
      have := Int.ediv_nonneg (a := (((x2 + x5) - 1) : Int32).toInt) (b := (x5 : Int32).toInt) (by omega) (by omega)
      have := Int.ediv_le_self (a := (((x2 + x5) - 1) : Int32).toInt) (x5 : Int32).toInt (by omega)
      refine ok_lt (fun h2 => ?_) (fun h2 => ?_)
      · have : ((x5 + 1) : Int32).toInt = (x5 : Int32).toInt + (1 : Int32).toInt := i32_add (by omega) (by omega)
        refine ok_nmI (fun v2 hv2 he3 => ?_)
        exact ih σ x2 x3 x4 v2 hI (by omega) (by omega) (by omega) (by omega) (by omega) (by omega) (by omega) (by omega) (by omega)
      · exact ok_some ⟨by show (-2) ≤ x5.toInt; omega, by show x5.toInt ≤ 12; omega⟩

theorem sX12_noon_0 {g : Nat} (σ : S2) (x1 : Int32) (x2 : Int32) (x3 : Int32) (hI : IvM g σ)   : Ok (fun z => (-2) ≤ z.toInt ∧ z.toInt ≤ 12) (fX12_noon_0 σ x1 x2 x3) := by
  have hFU : ((FU : Nat) : Int) = 100000 := rfl
  unfold fX12_noon_0
  have := i32_rng x1
  refine ok_bi (sX12_isTable σ x1 hI) (fun r3 hr1 => ?_)
  obtain ⟨p2, p3, p4⟩ := hr1
  have p2 : 0 ≤ r3.toInt := p2
  have p3 : r3.toInt ≤ 1 := p3
  have p4 : r3.toInt ≠ 0 → 0 ≤ x1.toInt ∧ x1.toInt < (σ.1 0 9).toInt := p4
  have : 0 ≤ (σ.1 0 9).toInt ∧ (σ.1 0 9).toInt ≤ 10 := hI.1 0 9
  have : (0 : Int32).toInt = 0 := by decide
  refine ok_eq (fun h5 => ?_) (fun h5 => ?_)
  · have : ((-1) : Int32).toInt = (-1) := by decide
    exact ok_some ⟨by show (-2) ≤ ((-1) : Int32).toInt; omega, by show ((-1) : Int32).toInt ≤ 12; omega⟩
  · have := i32_rng x2
    have : (9999 : Int32).toInt = 9999 := by decide
    refine ok_bi (sX12_in σ x2 0 9999 hI (by omega) (by omega) (by omega) (by omega)) (fun r5 hr6 => ?_)
    obtain ⟨p7, p8, p9⟩ := hr6
    have p7 : 0 ≤ r5.toInt := p7
    have p8 : r5.toInt ≤ 1 := p8
    have p9 : r5.toInt ≠ 0 → (0 : Int32).toInt ≤ x2.toInt ∧ x2.toInt ≤ (9999 : Int32).toInt := p9
    refine ok_eq (fun h10 => ?_) (fun h10 => ?_)
    · have : ((-1) : Int32).toInt = (-1) := by decide
      exact ok_some ⟨by show (-2) ≤ ((-1) : Int32).toInt; omega, by show ((-1) : Int32).toInt ≤ 12; omega⟩
    · have := i32_rng x3
      refine ok_bi (sX12_in σ x3 0 9999 hI (by omega) (by omega) (by omega) (by omega)) (fun r7 hr11 => ?_)
      obtain ⟨p12, p13, p14⟩ := hr11
      have p12 : 0 ≤ r7.toInt := p12
      have p13 : r7.toInt ≤ 1 := p13
      have p14 : r7.toInt ≠ 0 → (0 : Int32).toInt ≤ x3.toInt ∧ x3.toInt ≤ (9999 : Int32).toInt := p14
      refine ok_eq (fun h15 => ?_) (fun h15 => ?_)
      · have : ((-1) : Int32).toInt = (-1) := by decide
        exact ok_some ⟨by show (-2) ≤ ((-1) : Int32).toInt; omega, by show ((-1) : Int32).toInt ≤ 12; omega⟩
      · refine ok_ck (by omega) (by omega) ?_
        have : 0 ≤ (σ.1 8 (Int32.toNatClampNeg x1)).toInt ∧ (σ.1 8 (Int32.toNatClampNeg x1)).toInt ≤ 4095 := hI.1 8 (Int32.toNatClampNeg x1)
        refine ok_nmI (fun v9 hv9 he16 => ?_)
        refine ok_bi (sX12_ones σ v9 hI (by omega) (by omega)) (fun r10 hr17 => ?_)
        obtain ⟨p18, p19⟩ := hr17
        have p18 : 0 ≤ r10.toInt := p18
        have p19 : r10.toInt ≤ 12 := p19
        have : (1 : Int32).toInt = 1 := by decide
        exact sX12_noon_46 FU σ x2 x3 r10 1 hI (by omega) (by omega) (by omega) (by omega) (by omega) (by omega) (by omega) (by omega) (by omega)

theorem sX12_noon {g : Nat} (σ : S2) (a1 : Int32) (a2 : Int32) (a3 : Int32) (hI : IvM g σ)   : Ok (fun z => (-2) ≤ z.toInt ∧ z.toInt ≤ 12) (fX12_noon σ a1 a2 a3) := by
  unfold fX12_noon
  exact sX12_noon_0 σ a1 a2 a3 hI

theorem sX12_lies_75 {g : Nat} (σ : S2) (x1 : Int32) (x4 : Int32) (s0 : Int32) (hI : IvM g σ) (p9000 : 0 ≤ x1.toInt) (p9001 : x1.toInt ≤ 11) (p9002 : 0 ≤ x4.toInt) (p9003 : x4.toInt ≤ 1) (p9004 : 1 ≤ s0.toInt)  : Ok (fun z => True) (fX12_lies_75 σ x1 x4 s0) := by
  have hFU : ((FU : Nat) : Int) = 100000 := rfl
  unfold fX12_lies_75
  have : (0 : Int32).toInt = 0 := by decide
  refine ok_eq (fun h1 => ?_) (fun h1 => ?_)
  · have := i32_rng s0
    exact ok_some trivial
  · refine ok_ck (by omega) (by omega) ?_
    have : 0 ≤ (σ.1 4 (Int32.toNatClampNeg x1)).toInt ∧ (σ.1 4 (Int32.toNatClampNeg x1)).toInt ≤ 8 := hI.1 4 (Int32.toNatClampNeg x1)
    refine ok_nmI (fun v1 hv1 he2 => ?_)
    have : (4 : Int32).toInt = 4 := by decide
    have := i32_rng s0
    have : ((v1 - s0) : Int32).toInt = (v1 : Int32).toInt - (s0 : Int32).toInt := i32_sub (by omega) (by omega)
    have := i32_rng (4 * (v1 - s0))
    exact ok_some trivial

theorem sX12_lies_0 {g : Nat} (σ : S2) (x1 : Int32) (x2 : Int32) (x3 : Int32) (x4 : Int32) (hI : IvM g σ)   : Ok (fun z => True) (fX12_lies_0 σ x1 x2 x3 x4) := by
  have hFU : ((FU : Nat) : Int) = 100000 := rfl
  unfold fX12_lies_0
  have := i32_rng x1
  refine ok_bi (sX12_isKeeper σ x1 hI) (fun r2 hr1 => ?_)
  obtain ⟨p2, p3, p4⟩ := hr1
  have p2 : 0 ≤ r2.toInt := p2
  have p3 : r2.toInt ≤ 1 := p3
  have p4 : r2.toInt ≠ 0 → 0 ≤ x1.toInt ∧ x1.toInt < (σ.1 0 3).toInt := p4
  have : 0 ≤ (σ.1 0 3).toInt ∧ (σ.1 0 3).toInt ≤ 12 := hI.1 0 3
  have : (0 : Int32).toInt = 0 := by decide
  refine ok_eq (fun h5 => ?_) (fun h5 => ?_)
  · have : ((-1) : Int32).toInt = (-1) := by decide
    exact ok_some trivial
  · have := i32_rng x2
    have : (99 : Int32).toInt = 99 := by decide
    refine ok_bi (sX12_in σ x2 0 99 hI (by omega) (by omega) (by omega) (by omega)) (fun r4 hr6 => ?_)
    obtain ⟨p7, p8, p9⟩ := hr6
    have p7 : 0 ≤ r4.toInt := p7
    have p8 : r4.toInt ≤ 1 := p8
    have p9 : r4.toInt ≠ 0 → (0 : Int32).toInt ≤ x2.toInt ∧ x2.toInt ≤ (99 : Int32).toInt := p9
    refine ok_eq (fun h10 => ?_) (fun h10 => ?_)
    · have : ((-1) : Int32).toInt = (-1) := by decide
      exact ok_some trivial
    · have := i32_rng x3
      have : (1 : Int32).toInt = 1 := by decide
      refine ok_bi (sX12_in σ x3 1 99 hI (by omega) (by omega) (by omega) (by omega)) (fun r6 hr11 => ?_)
      obtain ⟨p12, p13, p14⟩ := hr11
      have p12 : 0 ≤ r6.toInt := p12
      have p13 : r6.toInt ≤ 1 := p13
      have p14 : r6.toInt ≠ 0 → (1 : Int32).toInt ≤ x3.toInt ∧ x3.toInt ≤ (99 : Int32).toInt := p14
      refine ok_eq (fun h15 => ?_) (fun h15 => ?_)
      · have : ((-1) : Int32).toInt = (-1) := by decide
        exact ok_some trivial
      · refine ok_lt (fun h16 => ?_) (fun h16 => ?_)
        · have : ((-1) : Int32).toInt = (-1) := by decide
          exact ok_some trivial
        · have := i32_rng x4
          refine ok_bi (sX12_in σ x4 0 1 hI (by omega) (by omega) (by omega) (by omega)) (fun r8 hr17 => ?_)
          obtain ⟨p18, p19, p20⟩ := hr17
          have p18 : 0 ≤ r8.toInt := p18
          have p19 : r8.toInt ≤ 1 := p19
          have p20 : r8.toInt ≠ 0 → (0 : Int32).toInt ≤ x4.toInt ∧ x4.toInt ≤ (1 : Int32).toInt := p20
          refine ok_eq (fun h21 => ?_) (fun h21 => ?_)
          · have : ((-1) : Int32).toInt = (-1) := by decide
            exact ok_some trivial
          · refine ok_ck (by omega) (by omega) ?_
            have : 0 ≤ (σ.1 4 (Int32.toNatClampNeg x1)).toInt ∧ (σ.1 4 (Int32.toNatClampNeg x1)).toInt ≤ 8 := hI.1 4 (Int32.toNatClampNeg x1)
            refine ok_nmI (fun v10 hv10 he22 => ?_)
            refine ok_dz (by omega) ?_
            have : ((x3 - x2) : Int32).toInt = (x3 : Int32).toInt - (x2 : Int32).toInt := i32_sub (by omega) (by omega)
            have : -792 ≤ ((v10 * (x3 - x2)) : Int32).toInt ∧ ((v10 * (x3 - x2)) : Int32).toInt ≤ 792 := i32_mulS 8 99 (by omega) (by omega) (by omega) (by omega) (by omega)
            have : (((v10 * (x3 - x2)) + x3) : Int32).toInt = ((v10 * (x3 - x2)) : Int32).toInt + (x3 : Int32).toInt := i32_add (by omega) (by omega)
            have : ((((v10 * (x3 - x2)) + x3) - 1) : Int32).toInt = (((v10 * (x3 - x2)) + x3) : Int32).toInt - (1 : Int32).toInt := i32_sub (by omega) (by omega)
            have := i32_rng ((((v10 * (x3 - x2)) + x3) - 1) / x3)
            refine ok_nmI (fun v12 hv12 he23 => ?_)
            have := i32_rng v12
            refine ok_le (fun h24 => ?_) (fun h24 => ?_)
            · exact sX12_lies_75 σ x1 x4 v12 hI (by omega) (by omega) (by omega) (by omega) (by omega)
            · exact sX12_lies_75 σ x1 x4 1 hI (by omega) (by omega) (by omega) (by omega) (by omega)

theorem sX12_lies {g : Nat} (σ : S2) (a1 : Int32) (a2 : Int32) (a3 : Int32) (a4 : Int32) (hI : IvM g σ)   : Ok (fun z => True) (fX12_lies σ a1 a2 a3 a4) := by
  unfold fX12_lies
  exact sX12_lies_0 σ a1 a2 a3 a4 hI

theorem sX12_isComing_2 {g : Nat} : ∀ (n : Nat) (σ : S2) (x1 : Int32) (x2 : Int32), IvM g σ → 0 ≤ x1.toInt → x1.toInt ≤ 11 → 0 ≤ x2.toInt → x2.toInt ≤ 5 → 5 - x2.toInt < (n : Int) → Ok (fun z => 0 ≤ z.toInt ∧ z.toInt ≤ 1) (fX12_isComing_2 n σ x1 x2) := by
  have hFU : ((FU : Nat) : Int) = 100000 := rfl
  intro n
  induction n with
  | zero => intro σ x1 x2 hI p9000 p9001 p9002 p9003 hm; exfalso; omega
  | succ n ih =>
    intro σ x1 x2 hI p9000 p9001 p9002 p9003 hm
    unfold fX12_isComing_2
    have : 0 ≤ (σ.1 0 30).toInt ∧ (σ.1 0 30).toInt ≤ 5 := hI.1 0 30
    refine ok_le (fun h1 => ?_) (fun h1 => ?_)
    · have : (0 : Int32).toInt = 0 := by decide
      exact ok_some ⟨by show 0 ≤ (0 : Int32).toInt; omega, by show (0 : Int32).toInt ≤ 1; omega⟩
    · refine ok_ck (by omega) (by omega) ?_
      have : 0 ≤ (σ.1 26 (Int32.toNatClampNeg x2)).toInt ∧ (σ.1 26 (Int32.toNatClampNeg x2)).toInt ≤ 11 := hI.1 26 (Int32.toNatClampNeg x2); have : (σ.1 26 (Int32.toNatClampNeg x2)).toInt < (σ.1 0 3).toInt ∨ (σ.1 26 (Int32.toNatClampNeg x2)).toInt = 0 := hI.2.2.2.2.1 (Int32.toNatClampNeg x2); have : (σ.1 0 9).toInt = 0 ∨ 1 ≤ (σ.1 0 3).toInt := hI.2.2.2.2.2
      refine ok_nmI (fun v1 hv1 he2 => ?_)
      refine ok_eq (fun h3 => ?_) (fun h3 => ?_)
      · have : (1 : Int32).toInt = 1 := by decide
        exact ok_some ⟨by show 0 ≤ (1 : Int32).toInt; omega, by show (1 : Int32).toInt ≤ 1; omega⟩
      · have : (1 : Int32).toInt = 1 := by decide
        have : ((x2 + 1) : Int32).toInt = (x2 : Int32).toInt + (1 : Int32).toInt := i32_add (by omega) (by omega)
        refine ok_nmI (fun v2 hv2 he4 => ?_)
        exact ih σ x1 v2 hI (by omega) (by omega) (by omega) (by omega) (by omega)

theorem sX12_isComing_0 {g : Nat} (σ : S2) (x1 : Int32) (hI : IvM g σ) (p9000 : 0 ≤ x1.toInt) (p9001 : x1.toInt ≤ 11)  : Ok (fun z => 0 ≤ z.toInt ∧ z.toInt ≤ 1) (fX12_isComing_0 σ x1) := by
  have hFU : ((FU : Nat) : Int) = 100000 := rfl
  unfold fX12_isComing_0
  have : (0 : Int32).toInt = 0 := by decide
  exact sX12_isComing_2 FU σ x1 0 hI (by omega) (by omega) (by omega) (by omega) (by omega)

theorem sX12_isComing {g : Nat} (σ : S2) (a1 : Int32) (hI : IvM g σ) (p9000 : 0 ≤ a1.toInt) (p9001 : a1.toInt ≤ 11)  : Ok (fun z => 0 ≤ z.toInt ∧ z.toInt ≤ 1) (fX12_isComing σ a1) := by
  unfold fX12_isComing
  exact sX12_isComing_0 σ a1 hI (by assumption) (by assumption)

theorem sX12_comes_0 {g : Nat} (σ : S2) (x1 : Int32) (hI : IvM g σ)   : Ok (fun z => IvM g z.2 ∧ (-3) ≤ z.1.toInt ∧ z.1.toInt ≤ 5) (fX12_comes_0 σ x1) := by
  have hFU : ((FU : Nat) : Int) = 100000 := rfl
  unfold fX12_comes_0
  have := i32_rng x1
  refine ok_bi (sX12_isKeeper σ x1 hI) (fun r1 hr1 => ?_)
  obtain ⟨p2, p3, p4⟩ := hr1
  have p2 : 0 ≤ r1.toInt := p2
  have p3 : r1.toInt ≤ 1 := p3
  have p4 : r1.toInt ≠ 0 → 0 ≤ x1.toInt ∧ x1.toInt < (σ.1 0 3).toInt := p4
  have : 0 ≤ (σ.1 0 3).toInt ∧ (σ.1 0 3).toInt ≤ 12 := hI.1 0 3
  have : (0 : Int32).toInt = 0 := by decide
  refine ok_eq (fun h5 => ?_) (fun h5 => ?_)
  · have : ((-1) : Int32).toInt = (-1) := by decide
    exact ok_some ⟨hI, by show (-3) ≤ ((-1) : Int32).toInt; omega, by show ((-1) : Int32).toInt ≤ 5; omega⟩
  · refine ok_bi (sX12_isComing σ x1 hI (by omega) (by omega)) (fun r3 hr6 => ?_)
    obtain ⟨p7, p8⟩ := hr6
    have p7 : 0 ≤ r3.toInt := p7
    have p8 : r3.toInt ≤ 1 := p8
    refine ok_eq (fun h9 => ?_) (fun h9 => ?_)
    · have : 0 ≤ (σ.1 0 30).toInt ∧ (σ.1 0 30).toInt ≤ 5 := hI.1 0 30
      have : (5 : Int32).toInt = 5 := by decide
      refine ok_eq (fun h10 => ?_) (fun h10 => ?_)
      · have : ((-3) : Int32).toInt = (-3) := by decide
        exact ok_some ⟨hI, by show (-3) ≤ ((-3) : Int32).toInt; omega, by show ((-3) : Int32).toInt ≤ 5; omega⟩
      · refine ok_ck (by omega) (by omega) ?_
        refine ok_nm (fun σ5 hs11 => ?_)
        have hI12 : IvM g σ5 := by rw [hs11]; exact IvM.w26 hI (by omega) (show 0 ≤ (x1 : Int32).toInt by omega) (show (x1 : Int32).toInt ≤ 11 by omega)
        have : (σ5.1 0 30).toInt = (σ.1 0 30).toInt := by rw [hs11]; rfl
        have : 0 ≤ (σ5.1 0 30).toInt ∧ (σ5.1 0 30).toInt ≤ 5 := hI12.1 0 30
        have : (1 : Int32).toInt = 1 := by decide
        have : (((σ5.1 0 30) + 1) : Int32).toInt = ((σ5.1 0 30) : Int32).toInt + (1 : Int32).toInt := i32_add (by omega) (by omega)
        refine ok_nm (fun σ6 hs13 => ?_)
        have hI14 : IvM g σ6 := by rw [hs13]; exact IvM.wI hI12 rfl (show 0 ≤ (((σ5.1 0 30) + 1) : Int32).toInt by omega) (show (((σ5.1 0 30) + 1) : Int32).toInt ≤ 5 by omega)
        have : (σ6.1 0 30).toInt = (((σ5.1 0 30) + 1) : Int32).toInt := by rw [hs13]; rfl
        have : 0 ≤ (σ6.1 0 30).toInt ∧ (σ6.1 0 30).toInt ≤ 5 := hI14.1 0 30
        exact ok_some ⟨hI14, by show (-3) ≤ (σ6.1 0 30).toInt; omega, by show (σ6.1 0 30).toInt ≤ 5; omega⟩
    · have : ((-1) : Int32).toInt = (-1) := by decide
      exact ok_some ⟨hI, by show (-3) ≤ ((-1) : Int32).toInt; omega, by show ((-1) : Int32).toInt ≤ 5; omega⟩

theorem sX12_comes {g : Nat} (σ : S2) (a1 : Int32) (hI : IvM g σ)   : Ok (fun z => IvM g z.2 ∧ (-3) ≤ z.1.toInt ∧ z.1.toInt ≤ 5) (fX12_comes σ a1) := by
  unfold fX12_comes
  exact sX12_comes_0 σ a1 hI

theorem sX12_tries_162 {g : Nat} (t0 : Int) (k71 : S2 → Int32 → Int32 → Option (Unit × S2)) (σ : S2) (x1 : Int32) (x4 : Int32) (s0 : Int32) (s1 : Int32) (hI : IvM g σ) (p9000 : 0 ≤ x1.toInt) (p9001 : x1.toInt ≤ 9) (p9002 : 0 ≤ x4.toInt) (p9003 : x4.toInt ≤ 11) (p9004 : 0 ≤ s0.toInt) (p9005 : s0.toInt ≤ 5) (p9006 : 120 ≤ s1.toInt) (p9007 : s1.toInt ≤ 131) (p9008 : (σ.1 0 9).toInt = t0) (p9009 : g ≠ 0) (p9010 : x1.toInt < (σ.1 0 9).toInt) (p9011 : SxM σ 10) (p9012 : PcM σ 10 (x4 + 1)) (p9013 : s1.toInt = 120 + x4.toInt) (hk71 : ∀ (y0 : S2) (y1 : Int32) (y2 : Int32), IvM g y0 → 0 ≤ y1.toInt → y1.toInt ≤ 9 → 0 ≤ y2.toInt → y2.toInt ≤ 12 → (y0.1 0 9).toInt = t0 → g ≠ 0 → y1.toInt < (y0.1 0 9).toInt → SxM y0 10 → PcM y0 10 y2 → x4.toInt + 1 ≤ y2.toInt → Ok (fun z => IvM g z.2 ∧ (z.2.1 0 9).toInt = t0 ∧ FaM z.2 (Int32.toNatClampNeg 10)) (k71 y0 y1 y2)) : Ok (fun z => IvM g z.2 ∧ (z.2.1 0 9).toInt = t0 ∧ FaM z.2 (Int32.toNatClampNeg 10)) (fX12_tries_162 k71 σ x1 x4 s0 s1) := by
  have hFU : ((FU : Nat) : Int) = 100000 := rfl
  unfold fX12_tries_162
  refine ok_ck (by omega) (by omega) ?_
  refine ok_nm (fun σ1 hs1 => ?_)
  have hI2 : IvM g σ1 := by rw [hs1]; exact IvM.wI hI rfl (show 0 ≤ (s0 : Int32).toInt by omega) (show (s0 : Int32).toInt ≤ 5 by omega)
  have : SxM σ1 10 := by rw [hs1]; exact (show SxM σ 10 by assumption)
  have : PcM σ1 10 (x4 + 1) := by rw [hs1]; exact (show PcM σ 10 (x4 + 1) by assumption)
  have : (σ1.1 0 9).toInt = (σ.1 0 9).toInt := by rw [hs1]; rfl
  have : (σ1.1 0 3).toInt = (σ.1 0 3).toInt := by rw [hs1]; rfl
  have : (1 : Int32).toInt = 1 := by decide
  have : ((x4 + 1) : Int32).toInt = (x4 : Int32).toInt + (1 : Int32).toInt := i32_add (by omega) (by omega)
  refine ok_nmI (fun v2 hv2 he3 => ?_)
  have : PcM σ1 10 v2 := by rw [hv2]; assumption
  have : 0 ≤ (σ1.1 0 9).toInt ∧ (σ1.1 0 9).toInt ≤ 10 := hI2.1 0 9
  exact hk71 σ1 x1 v2 hI2 (by omega) (by omega) (by omega) (by omega) (by omega) (by omega) (by omega) (by first | assumption | exact KeM.rf _) (by first | assumption | exact KeM.rf _) (by omega)

theorem sX12_tries_120 {g : Nat} (t0 : Int) (k71 : S2 → Int32 → Int32 → Option (Unit × S2)) (σ : S2) (x1 : Int32) (x4 : Int32) (s0 : Int32) (s1 : Int32) (hI : IvM g σ) (p9000 : 0 ≤ x1.toInt) (p9001 : x1.toInt ≤ 9) (p9002 : 0 ≤ x4.toInt) (p9003 : x4.toInt ≤ 11) (p9004 : 0 ≤ s0.toInt) (p9005 : s0.toInt ≤ 16) (p9006 : 120 ≤ s1.toInt) (p9007 : s1.toInt ≤ 131) (p9008 : (σ.1 0 9).toInt = t0) (p9009 : g ≠ 0) (p9010 : x1.toInt < (σ.1 0 9).toInt) (p9011 : SxM σ 10) (p9012 : PcM σ 10 x4) (p9013 : s1.toInt = 120 + x4.toInt) (p9014 : 1 ≤ s0.toInt) (p9015 : x4.toInt < (σ.1 0 3).toInt) (hk71 : ∀ (y0 : S2) (y1 : Int32) (y2 : Int32), IvM g y0 → 0 ≤ y1.toInt → y1.toInt ≤ 9 → 0 ≤ y2.toInt → y2.toInt ≤ 12 → (y0.1 0 9).toInt = t0 → g ≠ 0 → y1.toInt < (y0.1 0 9).toInt → SxM y0 10 → PcM y0 10 y2 → x4.toInt + 1 ≤ y2.toInt → Ok (fun z => IvM g z.2 ∧ (z.2.1 0 9).toInt = t0 ∧ FaM z.2 (Int32.toNatClampNeg 10)) (k71 y0 y1 y2)) : Ok (fun z => IvM g z.2 ∧ (z.2.1 0 9).toInt = t0 ∧ FaM z.2 (Int32.toNatClampNeg 10)) (fX12_tries_120 k71 σ x1 x4 s0 s1) := by
  have hFU : ((FU : Nat) : Int) = 100000 := rfl
  unfold fX12_tries_120
  refine ok_ck (by omega) (by omega) ?_
  refine ok_nm (fun σ3 hs1 => ?_)
  have : 0 ≤ (σ.1 0 9).toInt ∧ (σ.1 0 9).toInt ≤ 10 := hI.1 0 9
  have hI2 : IvM g σ3 := by rw [hs1]; have := i32_nat (i := s1) (by omega); exact IvM.w15 hI (by omega) (by omega) (show 0 ≤ (s0 : Int32).toInt by omega) (show (s0 : Int32).toInt ≤ 16 by omega)
  have : SxM σ3 10 := by rw [hs1]; exact (show SxM σ 10 by assumption)
  have : PcM σ3 10 (x4 + 1) := by rw [hs1]; have := i32_nat (i := x4) (by omega); have := i32_nat (i := s1) (by omega); have : Int32.toNatClampNeg 10 = 10 := rfl; have : (1 : Int32).toInt = 1 := rfl; exact PcM.step (x := x4) (by assumption) (by omega) (by omega) (by omega) (i32_add (by omega) (by omega))
  have : (σ3.1 0 9).toInt = (σ.1 0 9).toInt := by rw [hs1]; rfl
  have : (σ3.1 0 3).toInt = (σ.1 0 3).toInt := by rw [hs1]; rfl
  refine ok_bi (sX12_isIn σ3 x1 x4 hI2 (by omega) (by omega) (by omega) (by omega)) (fun r4 hr3 => ?_)
  obtain ⟨p4, p5, p6⟩ := hr3
  have p4 : 0 ≤ r4.toInt := p4
  have p5 : r4.toInt ≤ 1 := p5
  have p6 : IiM σ3 x1 x4 r4 := p6
  have : (0 : Int32).toInt = 0 := by decide
  refine ok_eq (fun h7 => ?_) (fun h7 => ?_)
  · refine ok_ck (by omega) (by omega) ?_
    have : 0 ≤ (σ3.1 3 (Int32.toNatClampNeg x4)).toInt ∧ (σ3.1 3 (Int32.toNatClampNeg x4)).toInt ≤ 5 := hI2.1 3 (Int32.toNatClampNeg x4)
    refine ok_nmI (fun v6 hv6 he8 => ?_)
    have : (120 : Int32).toInt = 120 := by decide
    have : ((120 + x4) : Int32).toInt = (120 : Int32).toInt + (x4 : Int32).toInt := i32_add (by omega) (by omega)
    have : 0 ≤ (σ3.1 0 9).toInt ∧ (σ3.1 0 9).toInt ≤ 10 := hI2.1 0 9
    exact sX12_tries_162 t0 k71 σ3 x1 x4 v6 (120 + x4) hI2 (by omega) (by omega) (by omega) (by omega) (by omega) (by omega) (by omega) (by omega) (by omega) (by omega) (by omega) (by first | assumption | exact KeM.rf _) (by first | assumption | exact KeM.rf _) (by omega) (fun y0 y1 y2 q0 q1 q2 q3 q4 q5 q6 q7 q8 q9 q10 => hk71 y0 y1 y2 q0 q1 q2 q3 q4 q5 q6 q7 q8 q9 (by omega))
  · have : (12 : Int32).toInt = 12 := by decide
    have : ((12 * x1) : Int32).toInt = 12 * (x1 : Int32).toInt := i32_mulL (by omega) (by omega) (by omega)
    have : (((12 * x1) + x4) : Int32).toInt = ((12 * x1) : Int32).toInt + (x4 : Int32).toInt := i32_add (by omega) (by omega)
    refine ok_ck (by omega) (by omega) ?_
    have : 0 ≤ (σ3.1 16 (Int32.toNatClampNeg ((12 * x1) + x4))).toInt ∧ (σ3.1 16 (Int32.toNatClampNeg ((12 * x1) + x4))).toInt ≤ 5 := hI2.1 16 (Int32.toNatClampNeg ((12 * x1) + x4))
    refine ok_nmI (fun v7 hv7 he9 => ?_)
    have : (120 : Int32).toInt = 120 := by decide
    have : ((120 + x4) : Int32).toInt = (120 : Int32).toInt + (x4 : Int32).toInt := i32_add (by omega) (by omega)
    have : 0 ≤ (σ3.1 0 9).toInt ∧ (σ3.1 0 9).toInt ≤ 10 := hI2.1 0 9
    exact sX12_tries_162 t0 k71 σ3 x1 x4 v7 (120 + x4) hI2 (by omega) (by omega) (by omega) (by omega) (by omega) (by omega) (by omega) (by omega) (by omega) (by omega) (by omega) (by first | assumption | exact KeM.rf _) (by first | assumption | exact KeM.rf _) (by omega) (fun y0 y1 y2 q0 q1 q2 q3 q4 q5 q6 q7 q8 q9 q10 => hk71 y0 y1 y2 q0 q1 q2 q3 q4 q5 q6 q7 q8 q9 (by omega))

theorem sX12_tries_71 {g : Nat} (t0 : Int) : ∀ (n : Nat) (σ : S2) (x1 : Int32) (x4 : Int32), IvM g σ → 0 ≤ x1.toInt → x1.toInt ≤ 9 → 0 ≤ x4.toInt → x4.toInt ≤ 12 → (σ.1 0 9).toInt = t0 → g ≠ 0 → x1.toInt < (σ.1 0 9).toInt → SxM σ 10 → PcM σ 10 x4 → 12 - x4.toInt < (n : Int) → Ok (fun z => IvM g z.2 ∧ (z.2.1 0 9).toInt = t0 ∧ FaM z.2 (Int32.toNatClampNeg 10)) (fX12_tries_71 n σ x1 x4) := by
  have hFU : ((FU : Nat) : Int) = 100000 := rfl
  intro n
  induction n with
  | zero => intro σ x1 x4 hI p9000 p9001 p9002 p9003 p9004 p9005 p9006 p9007 p9008 hm; exfalso; omega
  | succ n ih =>
    intro σ x1 x4 hI p9000 p9001 p9002 p9003 p9004 p9005 p9006 p9007 p9008 hm
    unfold fX12_tries_71
    have : 0 ≤ (σ.1 0 3).toInt ∧ (σ.1 0 3).toInt ≤ 12 := hI.1 0 3
    refine ok_le (fun h1 => ?_) (fun h1 => ?_)
    · have : (10 : Int32).toInt = 10 := by decide
      have : 0 ≤ (σ.1 0 9).toInt ∧ (σ.1 0 9).toInt ≤ 10 := hI.1 0 9
      refine ok_bs (sX12_numbers (σ.1 0 9).toInt (σ.1 0 3).toInt σ σ 10 hI (by omega) (by omega) (by omega) (by omega) (by first | assumption | exact KeM.rf _)) (fun r8 σ9 hr2 => ?_)
      obtain ⟨p3, p4, p5, p6⟩ := hr2
      have p3 : IvM g σ9 := p3
      have p4 : (σ9.1 0 9).toInt = (σ.1 0 9).toInt := p4
      have p5 : (σ9.1 0 3).toInt = (σ.1 0 3).toInt := p5
      have p6 : KeM σ σ9 := p6
      have : CoM σ9 (Int32.toNatClampNeg 10) := KeM.co (show KeM σ σ9 by assumption) (CoM.mk' (t := 10) (x := x4) (by assumption) (by assumption) (by omega))
      have : 0 ≤ (σ9.1 0 9).toInt ∧ (σ9.1 0 9).toInt ≤ 10 := p3.1 0 9
      have : 0 ≤ (σ9.1 0 3).toInt ∧ (σ9.1 0 3).toInt ≤ 12 := p3.1 0 3
      refine ok_bs (sX12_reads (σ9.1 0 9).toInt (σ9.1 0 3).toInt σ9 σ9 10 p3 (by omega) (by omega) (by omega) (by omega) (by first | assumption | exact KeM.rf _)) (fun r11 σ12 hr7 => ?_)
      obtain ⟨p8, p9, p10, p11, p12, p13⟩ := hr7
      have p8 : IvM g σ12 := p8
      have p9 : (-1) ≤ r11.toInt := p9
      have p10 : r11.toInt ≤ 80 := p10
      have p11 : (σ12.1 0 9).toInt = (σ9.1 0 9).toInt := p11
      have p12 : (σ12.1 0 3).toInt = (σ9.1 0 3).toInt := p12
      have p13 : KeM σ9 σ12 := p13
      have : CoM σ12 (Int32.toNatClampNeg 10) := KeM.co (show KeM σ9 σ12 by assumption) (by assumption)
      have : 0 ≤ (σ12.1 0 9).toInt ∧ (σ12.1 0 9).toInt ≤ 10 := p8.1 0 9
      have : 0 ≤ (σ12.1 0 3).toInt ∧ (σ12.1 0 3).toInt ≤ 12 := p8.1 0 3
      refine ok_bs (sX12_sits (σ12.1 0 9).toInt (σ12.1 0 3).toInt σ12 10 p8 (by omega) (by omega) (by omega) (by omega) (by omega) (by omega) (by first | assumption | exact KeM.rf _)) (fun r14 σ15 hr14 => ?_)
      obtain ⟨p15, p16, p17, p18⟩ := hr14
      have p15 : IvM g σ15 := p15
      have p16 : (σ15.1 0 9).toInt = (σ12.1 0 9).toInt := p16
      have p17 : (σ15.1 0 3).toInt = (σ12.1 0 3).toInt := p17
      have p18 : FaM σ15 (Int32.toNatClampNeg (10 : Int32)) := p18
      exact ok_some ⟨p15, by show (σ15.1 0 9).toInt = t0; omega, by show FaM σ15 (Int32.toNatClampNeg 10); assumption⟩
    · refine ok_bi (sX12_isIn σ x1 x4 hI (by omega) (by omega) (by omega) (by omega)) (fun r17 hr19 => ?_)
      obtain ⟨p20, p21, p22⟩ := hr19
      have p20 : 0 ≤ r17.toInt := p20
      have p21 : r17.toInt ≤ 1 := p21
      have p22 : IiM σ x1 x4 r17 := p22
      have : r17.toInt ≠ 0 → 1 ≤ (σ.1 15 (Int32.toNatClampNeg ((12 * x1) + x4))).toInt := fun hr => co_cnt hI (by omega) (by omega) (by omega) (by omega) (by omega) (by assumption) hr
      have : (0 : Int32).toInt = 0 := by decide
      refine ok_eq (fun h23 => ?_) (fun h23 => ?_)
      · refine ok_bi (sX12_countsNow σ x4 hI (by omega) (by omega) (by omega)) (fun r19 hr24 => ?_)
        obtain ⟨p25, p26, p27⟩ := hr24
        have p25 : 0 ≤ r19.toInt := p25
        have p26 : r19.toInt ≤ 16 := p26
        have p27 : 1 ≤ r19.toInt := p27
        have : (120 : Int32).toInt = 120 := by decide
        have : ((120 + x4) : Int32).toInt = (120 : Int32).toInt + (x4 : Int32).toInt := i32_add (by omega) (by omega)
        have : 0 ≤ (σ.1 0 9).toInt ∧ (σ.1 0 9).toInt ≤ 10 := hI.1 0 9
        exact sX12_tries_120 t0 (fX12_tries_71 n) σ x1 x4 r19 (120 + x4) hI (by omega) (by omega) (by omega) (by omega) (by omega) (by omega) (by omega) (by omega) (by omega) (by omega) (by omega) (by first | assumption | exact KeM.rf _) (by first | assumption | exact KeM.rf _) (by omega) (by omega) (by omega) (fun y0 y1 y2 q0 q1 q2 q3 q4 q5 q6 q7 q8 q9 q10 => ih y0 y1 y2 q0 q1 q2 q3 q4 q5 q6 q7 q8 q9 (by omega))
      · have : (12 : Int32).toInt = 12 := by decide
        have : ((12 * x1) : Int32).toInt = 12 * (x1 : Int32).toInt := i32_mulL (by omega) (by omega) (by omega)
        have : (((12 * x1) + x4) : Int32).toInt = ((12 * x1) : Int32).toInt + (x4 : Int32).toInt := i32_add (by omega) (by omega)
        refine ok_ck (by omega) (by omega) ?_
        have : 0 ≤ (σ.1 15 (Int32.toNatClampNeg ((12 * x1) + x4))).toInt ∧ (σ.1 15 (Int32.toNatClampNeg ((12 * x1) + x4))).toInt ≤ 16 := hI.1 15 (Int32.toNatClampNeg ((12 * x1) + x4))
        refine ok_nmI (fun v21 hv21 he28 => ?_)
        have : (120 : Int32).toInt = 120 := by decide
        have : ((120 + x4) : Int32).toInt = (120 : Int32).toInt + (x4 : Int32).toInt := i32_add (by omega) (by omega)
        have : 0 ≤ (σ.1 0 9).toInt ∧ (σ.1 0 9).toInt ≤ 10 := hI.1 0 9
        exact sX12_tries_120 t0 (fX12_tries_71 n) σ x1 x4 v21 (120 + x4) hI (by omega) (by omega) (by omega) (by omega) (by omega) (by omega) (by omega) (by omega) (by omega) (by omega) (by omega) (by first | assumption | exact KeM.rf _) (by first | assumption | exact KeM.rf _) (by omega) (by omega) (by omega) (fun y0 y1 y2 q0 q1 q2 q3 q4 q5 q6 q7 q8 q9 q10 => ih y0 y1 y2 q0 q1 q2 q3 q4 q5 q6 q7 q8 q9 (by omega))

theorem sX12_tries_32 {g : Nat} (t0 : Int) : ∀ (n : Nat) (σ : S2) (x1 : Int32) (x4 : Int32), IvM g σ → 0 ≤ x1.toInt → x1.toInt ≤ 9 → 0 ≤ x4.toInt → x4.toInt ≤ 80 → (σ.1 0 9).toInt = t0 → g ≠ 0 → x1.toInt < (σ.1 0 9).toInt → SxM σ 10 → 80 - x4.toInt < (n : Int) → Ok (fun z => IvM g z.2 ∧ (z.2.1 0 9).toInt = t0 ∧ FaM z.2 (Int32.toNatClampNeg 10)) (fX12_tries_32 n σ x1 x4) := by
  have hFU : ((FU : Nat) : Int) = 100000 := rfl
  intro n
  induction n with
  | zero => intro σ x1 x4 hI p9000 p9001 p9002 p9003 p9004 p9005 p9006 p9007 hm; exfalso; omega
  | succ n ih =>
    intro σ x1 x4 hI p9000 p9001 p9002 p9003 p9004 p9005 p9006 p9007 hm
    unfold fX12_tries_32
    have : (80 : Int32).toInt = 80 := by decide
    refine ok_le (fun h1 => ?_) (fun h1 => ?_)
    · have : PcM σ 10 0 := fun k hk => by have : (0 : Int32).toInt = 0 := rfl; exfalso; omega
      have : (0 : Int32).toInt = 0 := by decide
      have : 0 ≤ (σ.1 0 9).toInt ∧ (σ.1 0 9).toInt ≤ 10 := hI.1 0 9
      exact sX12_tries_71 t0 FU σ x1 0 hI (by omega) (by omega) (by omega) (by omega) (by omega) (by omega) (by omega) (by first | assumption | exact KeM.rf _) (by first | assumption | exact KeM.rf _) (by omega)
    · have : ((80 * x1) : Int32).toInt = 80 * (x1 : Int32).toInt := i32_mulL (by omega) (by omega) (by omega)
      have : (((80 * x1) + x4) : Int32).toInt = ((80 * x1) : Int32).toInt + (x4 : Int32).toInt := i32_add (by omega) (by omega)
      refine ok_ck (by omega) (by omega) ?_
      have : 0 ≤ (σ.1 14 (Int32.toNatClampNeg ((80 * x1) + x4))).toInt ∧ (σ.1 14 (Int32.toNatClampNeg ((80 * x1) + x4))).toInt ≤ 255 := hI.1 14 (Int32.toNatClampNeg ((80 * x1) + x4))
      refine ok_nmI (fun v22 hv22 he2 => ?_)
      have : (800 : Int32).toInt = 800 := by decide
      have : ((800 + x4) : Int32).toInt = (800 : Int32).toInt + (x4 : Int32).toInt := i32_add (by omega) (by omega)
      refine ok_ck (by omega) (by omega) ?_
      refine ok_nm (fun σ23 hs3 => ?_)
      have hI4 : IvM g σ23 := by rw [hs3]; exact IvM.wI hI rfl (show 0 ≤ (v22 : Int32).toInt by omega) (show (v22 : Int32).toInt ≤ 255 by omega)
      have : SxM σ23 10 := by rw [hs3]; exact (show SxM σ 10 by assumption)
      have : (σ23.1 0 9).toInt = (σ.1 0 9).toInt := by rw [hs3]; rfl
      have : (σ23.1 0 3).toInt = (σ.1 0 3).toInt := by rw [hs3]; rfl
      have : (1 : Int32).toInt = 1 := by decide
      have : ((x4 + 1) : Int32).toInt = (x4 : Int32).toInt + (1 : Int32).toInt := i32_add (by omega) (by omega)
      refine ok_nmI (fun v24 hv24 he5 => ?_)
      have : 0 ≤ (σ23.1 0 9).toInt ∧ (σ23.1 0 9).toInt ≤ 10 := hI4.1 0 9
      exact ih σ23 x1 v24 hI4 (by omega) (by omega) (by omega) (by omega) (by omega) (by omega) (by omega) (by first | assumption | exact KeM.rf _) (by omega)

theorem sX12_tries_0 {g : Nat} (t0 : Int) (σ : S2) (x1 : Int32) (x2 : Int32) (x3 : Int32) (hI : IvM g σ) (p9000 : 0 ≤ x1.toInt) (p9001 : x1.toInt ≤ 9) (p9002 : 0 ≤ x2.toInt) (p9003 : x2.toInt ≤ 4095) (p9004 : (σ.1 0 9).toInt = t0) (p9005 : g ≠ 0) (p9006 : x1.toInt < (σ.1 0 9).toInt) (p9007 : SsM σ x2)  : Ok (fun z => IvM g z.2 ∧ (z.2.1 0 9).toInt = t0 ∧ FaM z.2 (Int32.toNatClampNeg 10)) (fX12_tries_0 σ x1 x2 x3) := by
  have hFU : ((FU : Nat) : Int) = 100000 := rfl
  unfold fX12_tries_0
  have : (10 : Int32).toInt = 10 := by decide
  refine ok_ck (by omega) (by omega) ?_
  refine ok_nm (fun σ25 hs1 => ?_)
  have : 0 ≤ (σ.1 0 9).toInt ∧ (σ.1 0 9).toInt ≤ 10 := hI.1 0 9
  have hI2 : IvM g σ25 := by rw [hs1]; have := i32_nat (i := 10) (by omega); exact IvM.w8 hI (by omega) (by omega) (show 0 ≤ (x2 : Int32).toInt by omega) (show (x2 : Int32).toInt ≤ 4095 by omega)
  have : SxM σ25 10 := by rw [hs1]; unfold SxM; rw [ux_wI_eq]; exact (show SsM σ x2 by assumption)
  have : (σ25.1 0 9).toInt = (σ.1 0 9).toInt := by rw [hs1]; rfl
  have : (σ25.1 0 3).toInt = (σ.1 0 3).toInt := by rw [hs1]; rfl
  refine ok_ck (by omega) (by omega) ?_
  have := i32_rng x3
  refine ok_nm (fun σ26 hs3 => ?_)
  have hI4 : IvM g σ26 := by rw [hs3]; exact IvM.wI hI2 rfl (i32_rng _).1 (i32_rng _).2
  have : SxM σ26 10 := by rw [hs3]; exact (show SxM σ25 10 by assumption)
  have : (σ26.1 0 9).toInt = (σ25.1 0 9).toInt := by rw [hs3]; rfl
  have : (σ26.1 0 3).toInt = (σ25.1 0 3).toInt := by rw [hs3]; rfl
  refine ok_ck (by omega) (by omega) ?_
  have : 0 ≤ (σ26.1 13 (Int32.toNatClampNeg x1)).toInt ∧ (σ26.1 13 (Int32.toNatClampNeg x1)).toInt ≤ 80 := hI4.1 13 (Int32.toNatClampNeg x1)
  refine ok_nmI (fun v27 hv27 he5 => ?_)
  refine ok_ck (by omega) (by omega) ?_
  refine ok_nm (fun σ28 hs6 => ?_)
  have hI7 : IvM g σ28 := by rw [hs6]; exact IvM.wI hI4 rfl (show 0 ≤ (v27 : Int32).toInt by omega) (show (v27 : Int32).toInt ≤ 80 by omega)
  have : SxM σ28 10 := by rw [hs6]; exact (show SxM σ26 10 by assumption)
  have : (σ28.1 0 9).toInt = (σ26.1 0 9).toInt := by rw [hs6]; rfl
  have : (σ28.1 0 3).toInt = (σ26.1 0 3).toInt := by rw [hs6]; rfl
  have : (0 : Int32).toInt = 0 := by decide
  have : 0 ≤ (σ28.1 0 9).toInt ∧ (σ28.1 0 9).toInt ≤ 10 := hI7.1 0 9
  exact sX12_tries_32 t0 FU σ28 x1 0 hI7 (by omega) (by omega) (by omega) (by omega) (by omega) (by omega) (by omega) (by first | assumption | exact KeM.rf _) (by omega)

theorem sX12_tries {g : Nat} (t0 : Int) (σ : S2) (a1 : Int32) (a2 : Int32) (a3 : Int32) (hI : IvM g σ) (p9000 : 0 ≤ a1.toInt) (p9001 : a1.toInt ≤ 9) (p9002 : 0 ≤ a2.toInt) (p9003 : a2.toInt ≤ 4095) (p9004 : (σ.1 0 9).toInt = t0) (p9005 : a1.toInt < (σ.1 0 9).toInt) (p9006 : SsM σ a2)  : Ok (fun z => IvM g z.2 ∧ (z.2.1 0 9).toInt = t0 ∧ FaM z.2 (Int32.toNatClampNeg 10)) (fX12_tries σ a1 a2 a3) := by
  unfold fX12_tries
  exact ok_mono (sX12_tries_0 (g := 1) t0 σ a1 a2 a3 hI.weak (by first | assumption | omega) (by first | assumption | omega) (by first | assumption | omega) (by first | assumption | omega) (by first | assumption | omega) (by first | assumption | omega) (by first | assumption | omega) (by first | assumption | omega)) (fun z hz => ⟨hz.1.full hz.2.2, hz.2.1, hz.2.2⟩)

theorem sX12_setBy_10 {g : Nat} : ∀ (n : Nat) (σ : S2) (x2 : Int32) (x3 : Int32) (x4 : Int32), IvM g σ → 0 ≤ x2.toInt → x2.toInt ≤ 31 → 0 ≤ x3.toInt → x3.toInt ≤ 4095 → 0 ≤ x4.toInt → x4.toInt ≤ 5 → 1 ≤ (σ.1 0 3).toInt → (σ.1 0 3).toInt ≤ 12 → SsM σ x3 → 5 - x4.toInt < (n : Int) → Ok (fun z => 0 ≤ z.toInt ∧ z.toInt ≤ 4095 ∧ SsM σ z) (fX12_setBy_10 n σ x2 x3 x4) := by
  have hFU : ((FU : Nat) : Int) = 100000 := rfl
  intro n
  induction n with
  | zero => intro σ x2 x3 x4 hI p9000 p9001 p9002 p9003 p9004 p9005 p9006 p9007 p9008 hm; exfalso; omega
  | succ n ih =>
    intro σ x2 x3 x4 hI p9000 p9001 p9002 p9003 p9004 p9005 p9006 p9007 p9008 hm
    unfold fX12_setBy_10
    have : 0 ≤ (σ.1 0 30).toInt ∧ (σ.1 0 30).toInt ≤ 5 := hI.1 0 30
    refine ok_le (fun h1 => ?_) (fun h1 => ?_)
    · exact ok_some ⟨by show 0 ≤ x3.toInt; omega, by show x3.toInt ≤ 4095; omega, by show SsM σ x3; assumption⟩
    · refine ok_ck (by omega) (by omega) ?_
      have : 0 ≤ (σ.1 26 (Int32.toNatClampNeg x4)).toInt ∧ (σ.1 26 (Int32.toNatClampNeg x4)).toInt ≤ 11 := hI.1 26 (Int32.toNatClampNeg x4); have : (σ.1 26 (Int32.toNatClampNeg x4)).toInt < (σ.1 0 3).toInt ∨ (σ.1 26 (Int32.toNatClampNeg x4)).toInt = 0 := hI.2.2.2.2.1 (Int32.toNatClampNeg x4); have : (σ.1 0 9).toInt = 0 ∨ 1 ≤ (σ.1 0 3).toInt := hI.2.2.2.2.2
      refine ok_nmI (fun v1 hv1 he2 => ?_)
      have : (31 : Int32).toInt = 31 := by decide
      have := i32_andR (a := x4) (m := 31) (by omega)
      have := i32_andL (a := x4) (m := 31) (by omega)
      have := i32_sar (a := x2) (k := (x4 &&& 31)) (by omega)
      have : (1 : Int32).toInt = 1 := by decide
      have := i32_andR (a := (x2 >>> (x4 &&& 31))) (m := 1) (by omega)
      have := i32_andR (a := v1) (m := 31) (by omega)
      have := i32_andL (a := v1) (m := 31) (by omega)
      have : 0 ≤ ((((x2 >>> (x4 &&& 31)) &&& 1) <<< (v1 &&& 31)) : Int32).toInt ∧ ((((x2 >>> (x4 &&& 31)) &&& 1) <<< (v1 &&& 31)) : Int32).toInt ≤ 2048 := i32_shlb 11 (by omega) (by omega) (by omega) (by omega) (by decide)
      have := i32_xorB (a := x3) (b := (((x2 >>> (x4 &&& 31)) &&& 1) <<< (v1 &&& 31))) 12 4095 (by decide) (by decide) (by omega) (by omega) (by omega) (by omega)
      refine ok_nmI (fun v2 hv2 he3 => ?_)
      have : ((x4 + 1) : Int32).toInt = (x4 : Int32).toInt + (1 : Int32).toInt := i32_add (by omega) (by omega)
      refine ok_nmI (fun v3 hv3 he4 => ?_)
      exact ih σ x2 v2 v3 hI (by omega) (by omega) (by omega) (by omega) (by omega) (by omega) (by omega) (by omega) (by first | assumption | exact KeM.rf _ | (rw [hv2]; exact SsM.xor (by assumption) (by omega) (by omega) (by omega) (by omega) (by omega))) (by omega)

theorem sX12_setBy_0 {g : Nat} (σ : S2) (x1 : Int32) (x2 : Int32) (hI : IvM g σ) (p9000 : 0 ≤ x1.toInt) (p9001 : x1.toInt ≤ 9) (p9002 : 0 ≤ x2.toInt) (p9003 : x2.toInt ≤ 31) (p9004 : x1.toInt < (σ.1 0 9).toInt)  : Ok (fun z => 0 ≤ z.toInt ∧ z.toInt ≤ 4095 ∧ SsM σ z) (fX12_setBy_0 σ x1 x2) := by
  have hFU : ((FU : Nat) : Int) = 100000 := rfl
  unfold fX12_setBy_0
  refine ok_ck (by omega) (by omega) ?_
  have : 0 ≤ (σ.1 8 (Int32.toNatClampNeg x1)).toInt ∧ (σ.1 8 (Int32.toNatClampNeg x1)).toInt ≤ 4095 := hI.1 8 (Int32.toNatClampNeg x1)
  refine ok_nmI (fun v4 hv4 he1 => ?_)
  have : (σ.1 0 9).toInt = 0 ∨ 1 ≤ (σ.1 0 3).toInt := hI.2.2.2.2.2
  have : 0 ≤ (σ.1 0 3).toInt ∧ (σ.1 0 3).toInt ≤ 12 := hI.1 0 3
  have : (0 : Int32).toInt = 0 := by decide
  exact sX12_setBy_10 FU σ x2 v4 0 hI (by omega) (by omega) (by omega) (by omega) (by omega) (by omega) (by omega) (by omega) (by first | assumption | exact KeM.rf _ | (rw [hv4]; exact ss_of hI (by omega) (by omega))) (by omega)

theorem sX12_setBy {g : Nat} (σ : S2) (a1 : Int32) (a2 : Int32) (hI : IvM g σ) (p9000 : 0 ≤ a1.toInt) (p9001 : a1.toInt ≤ 9) (p9002 : 0 ≤ a2.toInt) (p9003 : a2.toInt ≤ 31) (p9004 : a1.toInt < (σ.1 0 9).toInt)  : Ok (fun z => 0 ≤ z.toInt ∧ z.toInt ≤ 4095 ∧ SsM σ z) (fX12_setBy σ a1 a2) := by
  unfold fX12_setBy
  exact sX12_setBy_0 σ a1 a2 hI (by assumption) (by assumption) (by assumption) (by assumption) (by assumption)

/-- the first n of tried are unlike -/
noncomputable def DiM (σ : S2) (n : Int32) : Prop := ∀ i j : Nat, (i : Int) < n.toInt → (j : Int) < n.toInt → (σ.1 39 i).toInt = (σ.1 39 j).toInt → i = j
noncomputable def DjM (σ : S2) (n : Int32) : Prop := ∀ i : Nat, (i : Int) < n.toInt → (σ.1 39 i).toInt = (i : Int)
theorem DiM.n {σ : S2} {n m : Int32} (h : DiM σ n) (e : m.toInt = n.toInt) : DiM σ m := fun i j hi hj q => h i j (by omega) (by omega) q
theorem DjM.di {σ : S2} {n m : Int32} (h : DjM σ n) (e : m.toInt ≤ n.toInt) : DiM σ m := fun i j hi hj q => by
  have := h i (by omega)
  have := h j (by omega)
  omega
theorem DjM.step {σ : S2} {x y : Int32} {v : Int32} {i : Nat} (h : DjM σ x) (h0 : 0 ≤ x.toInt) (hy : y.toInt = x.toInt + 1) (hi : i = Int32.toNatClampNeg x) (hv : v.toInt = x.toInt) : DjM (ux_wI σ 39 i v) y := by
  intro j hj
  have := i32_nat h0
  by_cases e : j = i
  · subst e; rw [ux_wI_eq]; omega
  · rw [ux_wI_ne (fun q => e q.2)]; exact h j (by omega)
theorem sw_at {σ : S2} {a b : Nat} {x y : Int32} (hx : x = σ.1 39 b) (hy : y = σ.1 39 a) (i : Nat) : (ux_wI (ux_wI σ 39 a x) 39 b y).1 39 i = σ.1 39 (if i = b then a else if i = a then b else i) := by
  subst hx hy
  by_cases h : i = b
  · rw [if_pos h]; subst h; rw [ux_wI_eq]
  · rw [if_neg h, ux_wI_ne (fun q => h q.2)]
    by_cases h2 : i = a
    · rw [if_pos h2]; subst h2; rw [ux_wI_eq]
    · rw [if_neg h2, ux_wI_ne (fun q => h2 q.2)]
theorem sw_fr {σ : S2} {a b : Nat} {x y : Int32} {k : Nat} (hk : k ≠ 39) : (ux_wI (ux_wI σ 39 a x) 39 b y).1 k = σ.1 k := by
  funext i
  rw [ux_wI_ne (fun q => hk q.1), ux_wI_ne (fun q => hk q.1)]
theorem DiM.sw {σ τ : S2} {n : Int32} {a b : Nat} (h : DiM σ n) (ha : (a : Int) < n.toInt) (hb : (b : Int) < n.toInt) (e : ∀ i, τ.1 39 i = σ.1 39 (if i = b then a else if i = a then b else i)) : DiM τ n := by
  intro i j hi hj q
  rw [e i, e j] at q
  have hp : ∀ i : Nat, (i : Int) < n.toInt → ((if i = b then a else if i = a then b else i : Nat) : Int) < n.toInt := by
    intro i hi
    by_cases h1 : i = b
    · rw [if_pos h1]; exact ha
    · rw [if_neg h1]
      by_cases h2 : i = a
      · rw [if_pos h2]; exact hb
      · rw [if_neg h2]; exact hi
  have := h _ _ (hp i hi) (hp j hj) q
  have key : ∀ i : Nat, (i = b ∧ (if i = b then a else if i = a then b else i) = a) ∨ (i ≠ b ∧ i = a ∧ (if i = b then a else if i = a then b else i) = b) ∨ (i ≠ b ∧ i ≠ a ∧ (if i = b then a else if i = a then b else i) = i) := by
    intro i
    by_cases h1 : i = b
    · exact Or.inl ⟨h1, if_pos h1⟩
    · by_cases h2 : i = a
      · exact Or.inr (Or.inl ⟨h1, h2, by rw [if_neg h1, if_pos h2]⟩)
      · exact Or.inr (Or.inr ⟨h1, h2, by rw [if_neg h1, if_neg h2]⟩)
  have ki := key i
  have kj := key j
  generalize (if i = b then a else if i = a then b else i) = u at this ki
  generalize (if j = b then a else if j = a then b else j) = v at this kj
  omega
theorem no108 {g : Nat} {N : Int32} : ∀ (n : Nat) (σ : S2) (x5 x6 : Int32), IvM g σ → DiM σ N → -1 ≤ x5.toInt → x5.toInt < N.toInt → N.toInt ≤ 5 → 0 ≤ x6.toInt → x6.toInt ≤ 5 → 6 - x6.toInt ≤ (n : Int) → Ok (fun z => IvM g z.2 ∧ z.1.toInt = 1 ∧ DiM z.2 N ∧ (∀ k, k ≠ 39 → z.2.1 k = σ.1 k) ∧ ∀ j : Nat, (j : Int) < x6.toInt → z.2.1 39 j = σ.1 39 j) (fX12_nextOrder_108 n σ x5 x6) := by
  intro n
  induction n with
  | zero => intro σ x5 x6 hI hd a0 a1 a2 b0 b1 hm; exfalso; omega
  | succ n ih =>
    intro σ x5 x6 hI hd a0 a1 a2 b0 b1 hm
    have one : (1 : Int32).toInt = 1 := rfl
    have m1 : ((-1 : Int32)).toInt = -1 := by decide
    unfold fX12_nextOrder_108
    refine ok_le (fun _ => ok_some ⟨hI, rfl, hd, fun _ _ => rfl, fun _ _ => rfl⟩) (fun hlt => ?_)
    have e5 := i32_nat (i := x5) (by omega)
    have e6 := i32_nat b0
    refine ok_ck (by omega) (by omega) (ok_nmI (fun v1 h1 f1 => ?_))
    refine ok_ck (by omega) (by omega) (ok_nmI (fun v2 h2 f2 => ?_))
    have q1 : 0 ≤ v1.toInt ∧ v1.toInt ≤ 4 := by rw [f1]; exact hI.1 39 _
    have q2 : 0 ≤ v2.toInt ∧ v2.toInt ≤ 4 := by rw [f2]; exact hI.1 39 _
    refine ok_ck (by omega) (by omega) (ok_nm (fun σ3 h3 => ?_))
    refine ok_ck (by omega) (by omega) (ok_nm (fun σ4 h4 => ?_))
    refine ok_nmI (fun v5 _ f5 => ok_nmI (fun v6 _ f6 => ?_))
    rw [i32_add (by omega) (by omega), m1] at f5
    rw [i32_add (by omega) (by omega), one] at f6
    have hI3 : IvM g σ3 := by rw [h3]; exact IvM.wI hI rfl q2.1 q2.2
    have hI4 : IvM g σ4 := by rw [h4]; exact IvM.wI hI3 rfl q1.1 q1.2
    have hat : ∀ i, σ4.1 39 i = σ.1 39 (if i = Int32.toNatClampNeg x5 then Int32.toNatClampNeg x6 else if i = Int32.toNatClampNeg x6 then Int32.toNatClampNeg x5 else i) := by
      intro i; rw [h4, h3]; exact sw_at h2 h1 i
    have hfr : ∀ k, k ≠ 39 → σ4.1 k = σ.1 k := by
      intro k hk; rw [h4, h3]; exact sw_fr hk
    refine ok_mono (ih σ4 v5 v6 hI4 (hd.sw (by omega) (by omega) hat) (by omega) (by omega) a2 (by omega) (by omega) (by omega)) (fun z hz => ?_)
    obtain ⟨z1, z2, z3, z4, z5⟩ := hz
    refine ⟨z1, z2, z3, fun k hk => (z4 k hk).trans (hfr k hk), fun j hj => ?_⟩
    rw [z5 j (by omega), hat j, if_neg (by omega), if_neg (by omega)]
noncomputable def VoM (σ : S2) : Int := 625 * (σ.1 39 0).toInt + 125 * (σ.1 39 1).toInt + 25 * (σ.1 39 2).toInt + 5 * (σ.1 39 3).toInt + (σ.1 39 4).toInt
theorem vo_lt {g : Nat} {σ τ : S2} {i : Nat} (hI : IvM g σ) (hJ : IvM g τ) (hi : i < 5) (hb : ∀ j, j < i → τ.1 39 j = σ.1 39 j) (hl : (σ.1 39 i).toInt < (τ.1 39 i).toInt) : VoM σ + 1 ≤ VoM τ := by
  have b : ∀ j, 0 ≤ (σ.1 39 j).toInt ∧ (σ.1 39 j).toInt ≤ 4 := fun j => hI.1 39 j
  have c : ∀ j, 0 ≤ (τ.1 39 j).toInt ∧ (τ.1 39 j).toInt ≤ 4 := fun j => hJ.1 39 j
  have b0 := b 0; have b1 := b 1; have b2 := b 2; have b3 := b 3; have b4 := b 4
  have c0 := c 0; have c1 := c 1; have c2 := c 2; have c3 := c 3; have c4 := c 4
  unfold VoM
  have hi' : i = 0 ∨ i = 1 ∨ i = 2 ∨ i = 3 ∨ i = 4 := by omega
  rcases hi' with rfl | rfl | rfl | rfl | rfl
  · omega
  · rw [hb 0 (by omega)]; omega
  · rw [hb 0 (by omega), hb 1 (by omega)]; omega
  · rw [hb 0 (by omega), hb 1 (by omega), hb 2 (by omega)]; omega
  · rw [hb 0 (by omega), hb 1 (by omega), hb 2 (by omega), hb 3 (by omega)]; omega
noncomputable def NoM (σ τ : S2) (n r : Int32) : Prop := DiM τ n ∧ (∀ k, k ≠ 39 → τ.1 k = σ.1 k) ∧ (r.toInt ≠ 0 → VoM σ + 1 ≤ VoM τ) ∧ (r.toInt = 0 → VoM τ = VoM σ)
theorem no49 {g : Nat} : ∀ (n : Nat) (σ : S2) (x1 x2 x3 : Int32), IvM g σ → DiM σ x1 → x1.toInt ≤ 5 → 0 ≤ x2.toInt → x2.toInt < x3.toInt → x3.toInt < x1.toInt → (σ.1 39 (Int32.toNatClampNeg x2)).toInt ≤ (σ.1 39 (Int32.toNatClampNeg x2 + 1)).toInt → x3.toInt - x2.toInt ≤ (n : Int) → Ok (fun z => IvM g z.2 ∧ 0 ≤ z.1.toInt ∧ z.1.toInt ≤ 1 ∧ NoM σ z.2 x1 z.1) (fX12_nextOrder_49 n σ x1 x2 x3) := by
  intro n
  induction n with
  | zero => intro σ x1 x2 x3 hI hd a1 b0 b1 c1 hle hm; exfalso; omega
  | succ n ih =>
    intro σ x1 x2 x3 hI hd a1 b0 b1 c1 hle hm
    have one : (1 : Int32).toInt = 1 := rfl
    have m1 : ((-1 : Int32)).toInt = -1 := by decide
    have e2 := i32_nat b0
    have e3 := i32_nat (i := x3) (by omega)
    unfold fX12_nextOrder_49
    refine ok_ck (by omega) (by omega) (ok_nmI (fun v7 h7 f7 => ?_))
    refine ok_ck (by omega) (by omega) (ok_nmI (fun v8 h8 f8 => ?_))
    refine ok_le (fun hge => ?_) (fun hlt => ?_)
    · refine ok_ck (by omega) (by omega) (ok_nmI (fun v9 h9 f9 => ?_))
      refine ok_ck (by omega) (by omega) (ok_nmI (fun v10 h10 f10 => ?_))
      have q1 : 0 ≤ v9.toInt ∧ v9.toInt ≤ 4 := by rw [f9]; exact hI.1 39 _
      have q2 : 0 ≤ v10.toInt ∧ v10.toInt ≤ 4 := by rw [f10]; exact hI.1 39 _
      refine ok_ck (by omega) (by omega) (ok_nm (fun σ11 h11 => ?_))
      refine ok_ck (by omega) (by omega) (ok_nm (fun σ12 h12 => ?_))
      refine ok_nmI (fun v13 _ f13 => ok_nmI (fun v14 _ f14 => ?_))
      rw [i32_sub (by omega) (by omega), one] at f13
      rw [i32_add (by omega) (by omega), one] at f14
      have hI3 : IvM g σ11 := by rw [h11]; exact IvM.wI hI rfl q2.1 q2.2
      have hI4 : IvM g σ12 := by rw [h12]; exact IvM.wI hI3 rfl q1.1 q1.2
      have hat : ∀ i, σ12.1 39 i = σ.1 39 (if i = Int32.toNatClampNeg x3 then Int32.toNatClampNeg x2 else if i = Int32.toNatClampNeg x2 then Int32.toNatClampNeg x3 else i) := by
        intro i; rw [h12, h11]; exact sw_at h10 h9 i
      have hfr : ∀ k, k ≠ 39 → σ12.1 k = σ.1 k := by
        intro k hk; rw [h12, h11]; exact sw_fr hk
      refine ok_mono (no108 (N := x1) FU σ12 v13 v14 hI4 (hd.sw (by omega) (by omega) hat) (by omega) (by omega) a1 (by omega) (by omega) (by have : FU = 100000 := rfl; omega)) (fun z hz => ?_)
      obtain ⟨z1, z2, z3, z4, z5⟩ := hz
      refine ⟨z1, by omega, by omega, z3, fun k hk => (z4 k hk).trans (hfr k hk), fun _ => ?_, fun q => by exfalso; omega⟩
      refine vo_lt (i := Int32.toNatClampNeg x2) hI z1 (by omega) (fun j hj => ?_) ?_
      · rw [z5 j (by omega), hat j, if_neg (by omega), if_neg (by omega)]
      · rw [z5 _ (by omega), hat, if_neg (by omega), if_pos rfl]
        have hne : (σ.1 39 (Int32.toNatClampNeg x2)).toInt ≠ (σ.1 39 (Int32.toNatClampNeg x3)).toInt := fun q => by
          have := hd _ _ (by omega) (by omega) q; omega
        omega
    · refine ok_nmI (fun v15 _ f15 => ?_)
      rw [i32_add (by omega) (by omega), m1] at f15
      have hne : x3.toInt ≠ x2.toInt + 1 := fun q => by
        have : Int32.toNatClampNeg x3 = Int32.toNatClampNeg x2 + 1 := by omega
        rw [this] at f7; omega
      exact ih σ x1 x2 v15 hI hd a1 b0 (by omega) (by omega) hle (by omega)
theorem no39 {g : Nat} {σ : S2} {x1 x2 : Int32} (hI : IvM g σ) (hd : DiM σ x1) (a1 : x1.toInt ≤ 5) (b0 : -2 ≤ x2.toInt) (b1 : x2.toInt + 2 ≤ x1.toInt) (hle : 0 ≤ x2.toInt → (σ.1 39 (Int32.toNatClampNeg x2)).toInt ≤ (σ.1 39 (Int32.toNatClampNeg x2 + 1)).toInt) : Ok (fun z => IvM g z.2 ∧ 0 ≤ z.1.toInt ∧ z.1.toInt ≤ 1 ∧ NoM σ z.2 x1 z.1) (fX12_nextOrder_39 σ x1 x2) := by
  have one : (1 : Int32).toInt = 1 := rfl
  have z0 : (0 : Int32).toInt = 0 := rfl
  unfold fX12_nextOrder_39
  refine ok_le (fun h => ?_) (fun _ => ok_some ⟨hI, (show (0 : Int) ≤ (0 : Int32).toInt by decide), (show (0 : Int32).toInt ≤ 1 by decide), hd, fun _ _ => rfl, fun q => absurd z0 q, fun _ => rfl⟩)
  refine ok_nmI (fun v16 _ f => ?_)
  rw [i32_sub (by omega) (by omega), one] at f
  exact no49 FU σ x1 x2 v16 hI hd a1 (by omega) (by omega) (by omega) (hle (by omega)) (by have : FU = 100000 := rfl; omega)
theorem no4 {g : Nat} : ∀ (n : Nat) (σ : S2) (x1 x2 : Int32), IvM g σ → DiM σ x1 → x1.toInt ≤ 5 → -2 ≤ x2.toInt → x2.toInt + 2 ≤ x1.toInt → x2.toInt + 3 ≤ (n : Int) → Ok (fun z => IvM g z.2 ∧ 0 ≤ z.1.toInt ∧ z.1.toInt ≤ 1 ∧ NoM σ z.2 x1 z.1) (fX12_nextOrder_4 n σ x1 x2) := by
  intro n
  induction n with
  | zero => intro σ x1 x2 hI hd a1 b0 b1 hm; exfalso; omega
  | succ n ih =>
    intro σ x1 x2 hI hd a1 b0 b1 hm
    have one : (1 : Int32).toInt = 1 := rfl
    have z0 : (0 : Int32).toInt = 0 := rfl
    have m1 : ((-1 : Int32)).toInt = -1 := by decide
    unfold fX12_nextOrder_4
    refine ok_lt (fun h => no39 hI hd a1 b0 b1 (fun q => by exfalso; omega)) (fun h => ?_)
    refine ok_le (fun h' => ?_) (fun h' => by exfalso; omega)
    have e2 := i32_nat (i := x2) (by omega)
    have ep : (x2 + 1).toInt = x2.toInt + 1 := by rw [i32_add (by omega) (by omega), one]
    have e3 := i32_nat (i := x2 + 1) (by omega)
    have en : Int32.toNatClampNeg (x2 + 1) = Int32.toNatClampNeg x2 + 1 := by omega
    unfold fX12_nextOrder_21
    refine ok_ck (by omega) (by omega) (ok_nmI (fun v17 _ f17 => ?_))
    refine ok_ck (by omega) (by omega) (ok_nmI (fun v18 _ f18 => ?_))
    rw [en] at f18
    refine ok_le (fun hq => no39 hI hd a1 b0 b1 (fun _ => by omega)) (fun hq => ?_)
    refine ok_nmI (fun v19 _ f19 => ?_)
    rw [i32_add (by omega) (by omega), m1] at f19
    exact ih σ x1 v19 hI hd a1 (by omega) (by omega) (by omega)
theorem no_all {g : Nat} {σ : S2} {a1 : Int32} (hI : IvM g σ) (hd : DiM σ a1) (h0 : 0 ≤ a1.toInt) (h1 : a1.toInt ≤ 5) : Ok (fun z => IvM g z.2 ∧ 0 ≤ z.1.toInt ∧ z.1.toInt ≤ 1 ∧ NoM σ z.2 a1 z.1) (fX12_nextOrder σ a1) := by
  have two : (2 : Int32).toInt = 2 := rfl
  unfold fX12_nextOrder fX12_nextOrder_0
  refine ok_nmI (fun v20 _ f => ?_)
  rw [i32_sub (by omega) (by omega), two] at f
  exact no4 FU σ a1 v20 hI hd h1 (by omega) (by omega) (by have : FU = 100000 := rfl; omega)
theorem sX12_nextOrder {g : Nat} (σ : S2) (a1 : Int32) (hI : IvM g σ) (p9000 : 0 ≤ a1.toInt) (p9001 : a1.toInt ≤ 5) (p9002 : DiM σ a1)  : Ok (fun z => IvM g z.2 ∧ 0 ≤ z.1.toInt ∧ z.1.toInt ≤ 1 ∧ (z.2.1 0 30).toInt = (σ.1 0 30).toInt ∧ (z.2.1 0 9).toInt = (σ.1 0 9).toInt ∧ DiM z.2 a1 ∧ (z.1.toInt ≠ 0 → 625 * (σ.1 39 0).toInt + 125 * (σ.1 39 1).toInt + 25 * (σ.1 39 2).toInt + 5 * (σ.1 39 3).toInt + (σ.1 39 4).toInt + 1 ≤ 625 * (z.2.1 39 0).toInt + 125 * (z.2.1 39 1).toInt + 25 * (z.2.1 39 2).toInt + 5 * (z.2.1 39 3).toInt + (z.2.1 39 4).toInt) ∧ (z.1.toInt = 0 → 625 * (z.2.1 39 0).toInt + 125 * (z.2.1 39 1).toInt + 25 * (z.2.1 39 2).toInt + 5 * (z.2.1 39 3).toInt + (z.2.1 39 4).toInt = 625 * (σ.1 39 0).toInt + 125 * (σ.1 39 1).toInt + 25 * (σ.1 39 2).toInt + 5 * (σ.1 39 3).toInt + (σ.1 39 4).toInt)) (fX12_nextOrder σ a1) := by
  refine ok_mono (no_all hI (by assumption) (by omega) (by omega)) (fun z hz => ?_)
  obtain ⟨z1, z2, z3, d, fr, v1, v2⟩ := hz
  unfold VoM at v1 v2
  exact ⟨z1, z2, z3, by rw [fr 0 (by decide)], by rw [fr 0 (by decide)], d, v1, v2⟩

theorem sX12_movesBy_44 {g : Nat} (k7 : S2 → Int32 → Int32 → Int32 → Int32 → Option Int32) : ∀ (n : Nat) (σ : S2) (x1 : Int32) (x2 : Int32) (x3 : Int32) (x4 : Int32) (x5 : Int32) (x6 : Int32), IvM g σ → 0 ≤ x1.toInt → x1.toInt ≤ 9 → 0 ≤ x3.toInt → x3.toInt ≤ 31 → 0 ≤ x4.toInt → x4.toInt ≤ 4 → 0 ≤ x5.toInt → x5.toInt ≤ 31 → 0 ≤ x6.toInt → x6.toInt ≤ 40 → x1.toInt < (σ.1 0 9).toInt → 40 - x6.toInt < (n : Int) → (∀ (y0 : S2) (y1 : Int32) (y2 : Int32) (y3 : Int32) (y4 : Int32), IvM g y0 → 0 ≤ y1.toInt → y1.toInt ≤ 9 → 0 ≤ y3.toInt → y3.toInt ≤ 31 → 0 ≤ y4.toInt → y4.toInt ≤ 5 → y1.toInt < (y0.1 0 9).toInt → x4.toInt + 1 ≤ y4.toInt → Ok (fun z => True) (k7 y0 y1 y2 y3 y4)) → Ok (fun z => True) (fX12_movesBy_44 k7 n σ x1 x2 x3 x4 x5 x6) := by
  have hFU : ((FU : Nat) : Int) = 100000 := rfl
  intro n
  induction n with
  | zero => intro σ x1 x2 x3 x4 x5 x6 hI p9000 p9001 p9002 p9003 p9004 p9005 p9006 p9007 p9008 p9009 p9010 hm hk7; exfalso; omega
  | succ n ih =>
    intro σ x1 x2 x3 x4 x5 x6 hI p9000 p9001 p9002 p9003 p9004 p9005 p9006 p9007 p9008 p9009 p9010 hm hk7
    unfold fX12_movesBy_44
    have : 0 ≤ (σ.1 0 0).toInt ∧ (σ.1 0 0).toInt ≤ 40 := hI.1 0 0
    refine ok_le (fun h1 => ?_) (fun h1 => ?_)
    · have : (1 : Int32).toInt = 1 := by decide
      have : ((x4 + 1) : Int32).toInt = (x4 : Int32).toInt + (1 : Int32).toInt := i32_add (by omega) (by omega)
      refine ok_nmI (fun v1 hv1 he2 => ?_)
      have := i32_rng x2
      exact hk7 σ x1 x2 x5 v1 hI (by omega) (by omega) (by omega) (by omega) (by omega) (by omega) (by omega) (by omega)
    · have : (40 : Int32).toInt = 40 := by decide
      have : ((40 * x5) : Int32).toInt = 40 * (x5 : Int32).toInt := i32_mulL (by omega) (by omega) (by omega)
      have : (((40 * x5) + x6) : Int32).toInt = ((40 * x5) : Int32).toInt + (x6 : Int32).toInt := i32_add (by omega) (by omega)
      refine ok_ck (by omega) (by omega) ?_
      have : 0 ≤ (σ.1 38 (Int32.toNatClampNeg ((40 * x5) + x6))).toInt ∧ (σ.1 38 (Int32.toNatClampNeg ((40 * x5) + x6))).toInt ≤ 4095 := hI.1 38 (Int32.toNatClampNeg ((40 * x5) + x6))
      refine ok_nmI (fun v2 hv2 he3 => ?_)
      have : ((40 * x3) : Int32).toInt = 40 * (x3 : Int32).toInt := i32_mulL (by omega) (by omega) (by omega)
      have : (((40 * x3) + x6) : Int32).toInt = ((40 * x3) : Int32).toInt + (x6 : Int32).toInt := i32_add (by omega) (by omega)
      refine ok_ck (by omega) (by omega) ?_
      have : 0 ≤ (σ.1 38 (Int32.toNatClampNeg ((40 * x3) + x6))).toInt ∧ (σ.1 38 (Int32.toNatClampNeg ((40 * x3) + x6))).toInt ≤ 4095 := hI.1 38 (Int32.toNatClampNeg ((40 * x3) + x6))
      refine ok_nmI (fun v3 hv3 he4 => ?_)
      have : ((-1) : Int32).toInt = (-1) := by decide
      have := i32_rng (v3 ^^^ (-1))
      have := i32_andL (a := v2) (m := (v3 ^^^ (-1))) (by omega)
      refine ok_bi (sX12_ones σ (v2 &&& (v3 ^^^ (-1))) hI (by omega) (by omega)) (fun r4 hr5 => ?_)
      obtain ⟨p6, p7⟩ := hr5
      have p6 : 0 ≤ r4.toInt := p6
      have p7 : r4.toInt ≤ 12 := p7
      have := i32_rng x2
      have := i32_rng (x2 + r4)
      refine ok_nmI (fun v6 hv6 he8 => ?_)
      have : (1 : Int32).toInt = 1 := by decide
      have : ((x6 + 1) : Int32).toInt = (x6 : Int32).toInt + (1 : Int32).toInt := i32_add (by omega) (by omega)
      refine ok_nmI (fun v7 hv7 he9 => ?_)
      have := i32_rng v6
      exact ih σ x1 v6 x3 x4 x5 v7 hI (by omega) (by omega) (by omega) (by omega) (by omega) (by omega) (by omega) (by omega) (by omega) (by omega) (by omega) (by omega) (fun y0 y1 y2 y3 y4 q0 q1 q2 q3 q4 q5 q6 q7 q8 => hk7 y0 y1 y2 y3 y4 q0 q1 q2 q3 q4 q5 q6 q7 (by omega))

theorem sX12_movesBy_7 {g : Nat} : ∀ (n : Nat) (σ : S2) (x1 : Int32) (x2 : Int32) (x3 : Int32) (x4 : Int32), IvM g σ → 0 ≤ x1.toInt → x1.toInt ≤ 9 → 0 ≤ x3.toInt → x3.toInt ≤ 31 → 0 ≤ x4.toInt → x4.toInt ≤ 5 → x1.toInt < (σ.1 0 9).toInt → 5 - x4.toInt < (n : Int) → Ok (fun z => True) (fX12_movesBy_7 n σ x1 x2 x3 x4) := by
  have hFU : ((FU : Nat) : Int) = 100000 := rfl
  intro n
  induction n with
  | zero => intro σ x1 x2 x3 x4 hI p9000 p9001 p9002 p9003 p9004 p9005 p9006 hm; exfalso; omega
  | succ n ih =>
    intro σ x1 x2 x3 x4 hI p9000 p9001 p9002 p9003 p9004 p9005 p9006 hm
    unfold fX12_movesBy_7
    have : 0 ≤ (σ.1 0 30).toInt ∧ (σ.1 0 30).toInt ≤ 5 := hI.1 0 30
    refine ok_le (fun h1 => ?_) (fun h1 => ?_)
    · have := i32_rng x2
      exact ok_some trivial
    · refine ok_ck (by omega) (by omega) ?_
      have : 0 ≤ (σ.1 39 (Int32.toNatClampNeg x4)).toInt ∧ (σ.1 39 (Int32.toNatClampNeg x4)).toInt ≤ 4 := hI.1 39 (Int32.toNatClampNeg x4)
      refine ok_nmI (fun v8 hv8 he2 => ?_)
      have : (1 : Int32).toInt = 1 := by decide
      have : (31 : Int32).toInt = 31 := by decide
      have := i32_andR (a := v8) (m := 31) (by omega)
      have := i32_andL (a := v8) (m := 31) (by omega)
      have : 1 ≤ ((1 <<< (v8 &&& 31)) : Int32).toInt ∧ ((1 <<< (v8 &&& 31)) : Int32).toInt ≤ 16 := i32_shlB 4 (by omega) (by omega) (by decide)
      have := i32_orB (a := x3) (b := (1 <<< (v8 &&& 31))) 5 31 (by decide) (by decide) (by omega) (by omega) (by omega) (by omega)
      refine ok_nmI (fun v9 hv9 he3 => ?_)
      refine ok_bi (sX12_setBy σ x1 v9 hI (by omega) (by omega) (by omega) (by omega) (by omega)) (fun r10 hr4 => ?_)
      obtain ⟨p5, p6, p7⟩ := hr4
      have p5 : 0 ≤ r10.toInt := p5
      have p6 : r10.toInt ≤ 4095 := p6
      have p7 : SsM σ r10 := p7
      have : (0 : Int32).toInt = 0 := by decide
      refine ok_eq (fun h8 => ?_) (fun h8 => ?_)
      · have : ((-1) : Int32).toInt = (-1) := by decide
        exact ok_some trivial
      · have := i32_rng x2
        exact sX12_movesBy_44 (fX12_movesBy_7 n) FU σ x1 x2 x3 x4 v9 0 hI (by omega) (by omega) (by omega) (by omega) (by omega) (by omega) (by omega) (by omega) (by omega) (by omega) (by omega) (by omega) (fun y0 y1 y2 y3 y4 q0 q1 q2 q3 q4 q5 q6 q7 q8 => ih y0 y1 y2 y3 y4 q0 q1 q2 q3 q4 q5 q6 q7 (by omega))

theorem sX12_movesBy_0 {g : Nat} (σ : S2) (x1 : Int32) (hI : IvM g σ) (p9000 : 0 ≤ x1.toInt) (p9001 : x1.toInt ≤ 9) (p9002 : x1.toInt < (σ.1 0 9).toInt)  : Ok (fun z => True) (fX12_movesBy_0 σ x1) := by
  have hFU : ((FU : Nat) : Int) = 100000 := rfl
  unfold fX12_movesBy_0
  have : (0 : Int32).toInt = 0 := by decide
  exact sX12_movesBy_7 FU σ x1 0 0 0 hI (by omega) (by omega) (by omega) (by omega) (by omega) (by omega) (by omega) (by omega)

theorem sX12_movesBy {g : Nat} (σ : S2) (a1 : Int32) (hI : IvM g σ) (p9000 : 0 ≤ a1.toInt) (p9001 : a1.toInt ≤ 9) (p9002 : a1.toInt < (σ.1 0 9).toInt)  : Ok (fun z => True) (fX12_movesBy σ a1) := by
  unfold fX12_movesBy
  exact sX12_movesBy_0 σ a1 hI (by assumption) (by assumption) (by assumption)

theorem sX12_order_195 {g : Nat} (k126 : S2 → Int32 → Int32 → Int32 → Option (Int32 × S2)) (σ : S2) (x1 : Int32) (x2 : Int32) (hI : IvM g σ) (p9000 : 0 ≤ x1.toInt) (p9001 : x1.toInt ≤ 9) (p9002 : (-1) ≤ x2.toInt) (p9003 : g = 0) (p9004 : x1.toInt < (σ.1 0 9).toInt) (p9005 : DiM σ (σ.1 0 30)) (hk126 : ∀ (y0 : S2) (y1 : Int32) (y2 : Int32) (y3 : Int32), IvM g y0 → 0 ≤ y1.toInt → y1.toInt ≤ 9 → (-1) ≤ y2.toInt → 0 ≤ y3.toInt → y3.toInt ≤ 1 → g = 0 → y1.toInt < (y0.1 0 9).toInt → DiM y0 (y0.1 0 30) → 625 * (σ.1 39 0).toInt + 125 * (σ.1 39 1).toInt + 25 * (σ.1 39 2).toInt + 5 * (σ.1 39 3).toInt + (σ.1 39 4).toInt + 1 ≤ 625 * (y0.1 39 0).toInt + 125 * (y0.1 39 1).toInt + 25 * (y0.1 39 2).toInt + 5 * (y0.1 39 3).toInt + (y0.1 39 4).toInt + 1 - y3.toInt → Ok (fun z => IvM g z.2 ∧ (-2) ≤ z.1.toInt) (k126 y0 y1 y2 y3)) : Ok (fun z => IvM g z.2 ∧ (-2) ≤ z.1.toInt) (fX12_order_195 k126 σ x1 x2) := by
  have hFU : ((FU : Nat) : Int) = 100000 := rfl
  unfold fX12_order_195
  have : 0 ≤ (σ.1 0 30).toInt ∧ (σ.1 0 30).toInt ≤ 5 := hI.1 0 30
  refine ok_bs (sX12_nextOrder σ (σ.1 0 30) hI (by omega) (by omega) (by first | assumption | exact KeM.rf _)) (fun r1 σ2 hr1 => ?_)
  obtain ⟨p2, p3, p4, p5, p6, p7, p8, p9⟩ := hr1
  have p2 : IvM g σ2 := p2
  have p3 : 0 ≤ r1.toInt := p3
  have p4 : r1.toInt ≤ 1 := p4
  have p5 : (σ2.1 0 30).toInt = (σ.1 0 30).toInt := p5
  have p6 : (σ2.1 0 9).toInt = (σ.1 0 9).toInt := p6
  have p7 : DiM σ2 (σ.1 0 30) := p7
  have p8 : r1.toInt ≠ 0 → 625 * (σ.1 39 0).toInt + 125 * (σ.1 39 1).toInt + 25 * (σ.1 39 2).toInt + 5 * (σ.1 39 3).toInt + (σ.1 39 4).toInt + 1 ≤ 625 * (σ2.1 39 0).toInt + 125 * (σ2.1 39 1).toInt + 25 * (σ2.1 39 2).toInt + 5 * (σ2.1 39 3).toInt + (σ2.1 39 4).toInt := p8
  have p9 : r1.toInt = 0 → 625 * (σ2.1 39 0).toInt + 125 * (σ2.1 39 1).toInt + 25 * (σ2.1 39 2).toInt + 5 * (σ2.1 39 3).toInt + (σ2.1 39 4).toInt = 625 * (σ.1 39 0).toInt + 125 * (σ.1 39 1).toInt + 25 * (σ.1 39 2).toInt + 5 * (σ.1 39 3).toInt + (σ.1 39 4).toInt := p9
  have : DiM σ2 (σ2.1 0 30) := DiM.n (by assumption) (by omega)
  have := i32_rng x2
  exact hk126 σ2 x1 x2 r1 p2 (by omega) (by omega) (by omega) (by omega) (by omega) (by omega) (by omega) (by first | assumption | exact KeM.rf _) (by omega)

theorem sX12_order_166 {g : Nat} (k126 : S2 → Int32 → Int32 → Int32 → Option (Int32 × S2)) : ∀ (n : Nat) (σ : S2) (x1 : Int32) (x2 : Int32) (x5 : Int32), IvM g σ → 0 ≤ x1.toInt → x1.toInt ≤ 9 → 0 ≤ x2.toInt → 0 ≤ x5.toInt → x5.toInt ≤ 5 → g = 0 → x1.toInt < (σ.1 0 9).toInt → DiM σ (σ.1 0 30) → 5 - x5.toInt < (n : Int) → (∀ (y0 : S2) (y1 : Int32) (y2 : Int32) (y3 : Int32), IvM g y0 → 0 ≤ y1.toInt → y1.toInt ≤ 9 → (-1) ≤ y2.toInt → 0 ≤ y3.toInt → y3.toInt ≤ 1 → g = 0 → y1.toInt < (y0.1 0 9).toInt → DiM y0 (y0.1 0 30) → 625 * (σ.1 39 0).toInt + 125 * (σ.1 39 1).toInt + 25 * (σ.1 39 2).toInt + 5 * (σ.1 39 3).toInt + (σ.1 39 4).toInt + 1 ≤ 625 * (y0.1 39 0).toInt + 125 * (y0.1 39 1).toInt + 25 * (y0.1 39 2).toInt + 5 * (y0.1 39 3).toInt + (y0.1 39 4).toInt + 1 - y3.toInt → Ok (fun z => IvM g z.2 ∧ (-2) ≤ z.1.toInt) (k126 y0 y1 y2 y3)) → Ok (fun z => IvM g z.2 ∧ (-2) ≤ z.1.toInt) (fX12_order_166 k126 n σ x1 x2 x5) := by
  have hFU : ((FU : Nat) : Int) = 100000 := rfl
  intro n
  induction n with
  | zero => intro σ x1 x2 x5 hI p9000 p9001 p9002 p9003 p9004 p9005 p9006 p9007 hm hk126; exfalso; omega
  | succ n ih =>
    intro σ x1 x2 x5 hI p9000 p9001 p9002 p9003 p9004 p9005 p9006 p9007 hm hk126
    unfold fX12_order_166
    have : 0 ≤ (σ.1 0 30).toInt ∧ (σ.1 0 30).toInt ≤ 5 := hI.1 0 30
    refine ok_le (fun h1 => ?_) (fun h1 => ?_)
    · have := i32_rng x2
      exact sX12_order_195 k126 σ x1 x2 hI (by omega) (by omega) (by omega) (by omega) (by omega) (by first | assumption | exact KeM.rf _) (fun y0 y1 y2 y3 q0 q1 q2 q3 q4 q5 q6 q7 q8 q9 => hk126 y0 y1 y2 y3 q0 q1 q2 q3 q4 q5 q6 q7 q8 (by omega))
    · refine ok_ck (by omega) (by omega) ?_
      have : 0 ≤ (σ.1 39 (Int32.toNatClampNeg x5)).toInt ∧ (σ.1 39 (Int32.toNatClampNeg x5)).toInt ≤ 4 := hI.1 39 (Int32.toNatClampNeg x5)
      refine ok_nmI (fun v4 hv4 he2 => ?_)
      refine ok_ck (by omega) (by omega) ?_
      refine ok_nm (fun σ5 hs3 => ?_)
      have hI4 : IvM g σ5 := by rw [hs3]; exact IvM.wI hI rfl (show 0 ≤ (v4 : Int32).toInt by omega) (show (v4 : Int32).toInt ≤ 4 by omega)
      have : DiM σ5 (σ5.1 0 30) := by rw [hs3]; exact (show DiM σ (σ.1 0 30) by assumption)
      have : (σ5.1 0 9).toInt = (σ.1 0 9).toInt := by rw [hs3]; rfl
      have : (σ5.1 39 0).toInt = (σ.1 39 0).toInt := by rw [hs3]; rfl
      have : (σ5.1 39 1).toInt = (σ.1 39 1).toInt := by rw [hs3]; rfl
      have : (σ5.1 39 2).toInt = (σ.1 39 2).toInt := by rw [hs3]; rfl
      have : (σ5.1 39 3).toInt = (σ.1 39 3).toInt := by rw [hs3]; rfl
      have : (σ5.1 39 4).toInt = (σ.1 39 4).toInt := by rw [hs3]; rfl
      have : (σ5.1 0 30).toInt = (σ.1 0 30).toInt := by rw [hs3]; rfl
      have : (1 : Int32).toInt = 1 := by decide
      have : ((x5 + 1) : Int32).toInt = (x5 : Int32).toInt + (1 : Int32).toInt := i32_add (by omega) (by omega)
      refine ok_nmI (fun v6 hv6 he5 => ?_)
      have := i32_rng x2
      exact ih σ5 x1 x2 v6 hI4 (by omega) (by omega) (by omega) (by omega) (by omega) (by omega) (by omega) (by first | assumption | exact KeM.rf _) (by omega) (fun y0 y1 y2 y3 q0 q1 q2 q3 q4 q5 q6 q7 q8 q9 => hk126 y0 y1 y2 y3 q0 q1 q2 q3 q4 q5 q6 q7 q8 (by omega))

theorem sX12_order_152 {g : Nat} (k126 : S2 → Int32 → Int32 → Int32 → Option (Int32 × S2)) (σ : S2) (x1 : Int32) (x4 : Int32) (hI : IvM g σ) (p9000 : 0 ≤ x1.toInt) (p9001 : x1.toInt ≤ 9) (p9002 : 0 ≤ x4.toInt) (p9003 : g = 0) (p9004 : x1.toInt < (σ.1 0 9).toInt) (p9005 : DiM σ (σ.1 0 30)) (hk126 : ∀ (y0 : S2) (y1 : Int32) (y2 : Int32) (y3 : Int32), IvM g y0 → 0 ≤ y1.toInt → y1.toInt ≤ 9 → (-1) ≤ y2.toInt → 0 ≤ y3.toInt → y3.toInt ≤ 1 → g = 0 → y1.toInt < (y0.1 0 9).toInt → DiM y0 (y0.1 0 30) → 625 * (σ.1 39 0).toInt + 125 * (σ.1 39 1).toInt + 25 * (σ.1 39 2).toInt + 5 * (σ.1 39 3).toInt + (σ.1 39 4).toInt + 1 ≤ 625 * (y0.1 39 0).toInt + 125 * (y0.1 39 1).toInt + 25 * (y0.1 39 2).toInt + 5 * (y0.1 39 3).toInt + (y0.1 39 4).toInt + 1 - y3.toInt → Ok (fun z => IvM g z.2 ∧ (-2) ≤ z.1.toInt) (k126 y0 y1 y2 y3)) : Ok (fun z => IvM g z.2 ∧ (-2) ≤ z.1.toInt) (fX12_order_152 k126 σ x1 x4) := by
  have hFU : ((FU : Nat) : Int) = 100000 := rfl
  unfold fX12_order_152
  have : 0 ≤ (σ.1 0 30).toInt ∧ (σ.1 0 30).toInt ≤ 5 := hI.1 0 30
  refine ok_nm (fun σ7 hs1 => ?_)
  have hI2 : IvM g σ7 := by rw [hs1]; exact IvM.wI hI rfl (show 0 ≤ ((σ.1 0 30) : Int32).toInt by omega) (show ((σ.1 0 30) : Int32).toInt ≤ 5 by omega)
  have : DiM σ7 (σ7.1 0 30) := by rw [hs1]; exact (show DiM σ (σ.1 0 30) by assumption)
  have : (σ7.1 0 9).toInt = (σ.1 0 9).toInt := by rw [hs1]; rfl
  have : (σ7.1 39 0).toInt = (σ.1 39 0).toInt := by rw [hs1]; rfl
  have : (σ7.1 39 1).toInt = (σ.1 39 1).toInt := by rw [hs1]; rfl
  have : (σ7.1 39 2).toInt = (σ.1 39 2).toInt := by rw [hs1]; rfl
  have : (σ7.1 39 3).toInt = (σ.1 39 3).toInt := by rw [hs1]; rfl
  have : (σ7.1 39 4).toInt = (σ.1 39 4).toInt := by rw [hs1]; rfl
  have : (σ7.1 0 30).toInt = (σ.1 0 30).toInt := by rw [hs1]; rfl
  have := i32_rng x4
  have : (0 : Int32).toInt = 0 := by decide
  exact sX12_order_166 k126 FU σ7 x1 x4 0 hI2 (by omega) (by omega) (by omega) (by omega) (by omega) (by omega) (by omega) (by first | assumption | exact KeM.rf _) (by omega) (fun y0 y1 y2 y3 q0 q1 q2 q3 q4 q5 q6 q7 q8 q9 => hk126 y0 y1 y2 y3 q0 q1 q2 q3 q4 q5 q6 q7 q8 (by omega))

theorem sX12_order_126 {g : Nat} : ∀ (n : Nat) (σ : S2) (x1 : Int32) (x2 : Int32) (x3 : Int32), IvM g σ → 0 ≤ x1.toInt → x1.toInt ≤ 9 → (-1) ≤ x2.toInt → 0 ≤ x3.toInt → x3.toInt ≤ 1 → g = 0 → x1.toInt < (σ.1 0 9).toInt → DiM σ (σ.1 0 30) → 3126 - (625 * (σ.1 39 0).toInt + 125 * (σ.1 39 1).toInt + 25 * (σ.1 39 2).toInt + 5 * (σ.1 39 3).toInt + (σ.1 39 4).toInt + 1 - x3.toInt) < (n : Int) → Ok (fun z => IvM g z.2 ∧ (-2) ≤ z.1.toInt) (fX12_order_126 n σ x1 x2 x3) := by
  have hFU : ((FU : Nat) : Int) = 100000 := rfl
  intro n
  induction n with
  | zero => intro σ x1 x2 x3 hI p9000 p9001 p9002 p9003 p9004 p9005 p9006 p9007 hm; have : 0 ≤ (σ.1 39 0).toInt ∧ (σ.1 39 0).toInt ≤ 4 := hI.1 39 0; have : 0 ≤ (σ.1 39 1).toInt ∧ (σ.1 39 1).toInt ≤ 4 := hI.1 39 1; have : 0 ≤ (σ.1 39 2).toInt ∧ (σ.1 39 2).toInt ≤ 4 := hI.1 39 2; have : 0 ≤ (σ.1 39 3).toInt ∧ (σ.1 39 3).toInt ≤ 4 := hI.1 39 3; have : 0 ≤ (σ.1 39 4).toInt ∧ (σ.1 39 4).toInt ≤ 4 := hI.1 39 4; exfalso; omega
  | succ n ih =>
    intro σ x1 x2 x3 hI p9000 p9001 p9002 p9003 p9004 p9005 p9006 p9007 hm
    unfold fX12_order_126
    have : (0 : Int32).toInt = 0 := by decide
    refine ok_eq (fun h1 => ?_) (fun h1 => ?_)
    · have := i32_rng x2
      refine ok_le (fun h2 => ?_) (fun h2 => ?_)
      · refine ok_nm (fun σ8 hs3 => ?_)
        have hI4 : IvM g σ8 := by rw [hs3]; exact IvM.wI hI rfl (show 0 ≤ (0 : Int32).toInt by omega) (show (0 : Int32).toInt ≤ 5 by omega)
        have : (σ8.1 0 9).toInt = (σ.1 0 9).toInt := by rw [hs3]; rfl
        have : (σ8.1 39 0).toInt = (σ.1 39 0).toInt := by rw [hs3]; rfl
        have : (σ8.1 39 1).toInt = (σ.1 39 1).toInt := by rw [hs3]; rfl
        have : (σ8.1 39 2).toInt = (σ.1 39 2).toInt := by rw [hs3]; rfl
        have : (σ8.1 39 3).toInt = (σ.1 39 3).toInt := by rw [hs3]; rfl
        have : (σ8.1 39 4).toInt = (σ.1 39 4).toInt := by rw [hs3]; rfl
        have : (σ8.1 0 30).toInt = (0 : Int32).toInt := by rw [hs3]; rfl
        exact ok_some ⟨hI4, by show (-2) ≤ x2.toInt; omega⟩
      · have : ((-2) : Int32).toInt = (-2) := by decide
        exact ok_some ⟨hI, by show (-2) ≤ ((-2) : Int32).toInt; omega⟩
    · refine ok_bi (sX12_movesBy σ x1 hI (by omega) (by omega) (by omega)) (fun r9 hr5 => ?_)
      have := i32_rng r9
      refine ok_lt (fun h6 => ?_) (fun h6 => ?_)
      · have := i32_rng x2
        exact sX12_order_195 (fX12_order_126 n) σ x1 x2 hI (by omega) (by omega) (by omega) (by omega) (by omega) (by first | assumption | exact KeM.rf _) (fun y0 y1 y2 y3 q0 q1 q2 q3 q4 q5 q6 q7 q8 q9 => ih y0 y1 y2 y3 q0 q1 q2 q3 q4 q5 q6 q7 q8 (by omega))
      · have := i32_rng x2
        refine ok_lt (fun h7 => ?_) (fun h7 => ?_)
        · exact sX12_order_152 (fX12_order_126 n) σ x1 r9 hI (by omega) (by omega) (by omega) (by omega) (by omega) (by first | assumption | exact KeM.rf _) (fun y0 y1 y2 y3 q0 q1 q2 q3 q4 q5 q6 q7 q8 q9 => ih y0 y1 y2 y3 q0 q1 q2 q3 q4 q5 q6 q7 q8 (by omega))
        · refine ok_le (fun h8 => ?_) (fun h8 => ?_)
          · exact sX12_order_195 (fX12_order_126 n) σ x1 x2 hI (by omega) (by omega) (by omega) (by omega) (by omega) (by first | assumption | exact KeM.rf _) (fun y0 y1 y2 y3 q0 q1 q2 q3 q4 q5 q6 q7 q8 q9 => ih y0 y1 y2 y3 q0 q1 q2 q3 q4 q5 q6 q7 q8 (by omega))
          · exact sX12_order_152 (fX12_order_126 n) σ x1 r9 hI (by omega) (by omega) (by omega) (by omega) (by omega) (by first | assumption | exact KeM.rf _) (fun y0 y1 y2 y3 q0 q1 q2 q3 q4 q5 q6 q7 q8 q9 => ih y0 y1 y2 y3 q0 q1 q2 q3 q4 q5 q6 q7 q8 (by omega))

theorem sX12_order_101 {g : Nat} : ∀ (n : Nat) (σ : S2) (x1 : Int32) (x2 : Int32), IvM g σ → 0 ≤ x1.toInt → x1.toInt ≤ 9 → 0 ≤ x2.toInt → x2.toInt ≤ 5 → g = 0 → x1.toInt < (σ.1 0 9).toInt → DjM σ x2 → 5 - x2.toInt < (n : Int) → Ok (fun z => IvM g z.2 ∧ (-2) ≤ z.1.toInt) (fX12_order_101 n σ x1 x2) := by
  have hFU : ((FU : Nat) : Int) = 100000 := rfl
  intro n
  induction n with
  | zero => intro σ x1 x2 hI p9000 p9001 p9002 p9003 p9004 p9005 p9006 hm; exfalso; omega
  | succ n ih =>
    intro σ x1 x2 hI p9000 p9001 p9002 p9003 p9004 p9005 p9006 hm
    unfold fX12_order_101
    have : 0 ≤ (σ.1 0 30).toInt ∧ (σ.1 0 30).toInt ≤ 5 := hI.1 0 30
    refine ok_le (fun h1 => ?_) (fun h1 => ?_)
    · have : 0 ≤ (σ.1 39 0).toInt ∧ (σ.1 39 0).toInt ≤ 4 := hI.1 39 0
      have : 0 ≤ (σ.1 39 1).toInt ∧ (σ.1 39 1).toInt ≤ 4 := hI.1 39 1
      have : 0 ≤ (σ.1 39 2).toInt ∧ (σ.1 39 2).toInt ≤ 4 := hI.1 39 2
      have : 0 ≤ (σ.1 39 3).toInt ∧ (σ.1 39 3).toInt ≤ 4 := hI.1 39 3
      have : 0 ≤ (σ.1 39 4).toInt ∧ (σ.1 39 4).toInt ≤ 4 := hI.1 39 4
      have : DiM σ (σ.1 0 30) := DjM.di (show DjM σ x2 by assumption) (by omega)
      have : ((-1) : Int32).toInt = (-1) := by decide
      have : (1 : Int32).toInt = 1 := by decide
      exact sX12_order_126 FU σ x1 (-1) 1 hI (by omega) (by omega) (by omega) (by omega) (by omega) (by omega) (by omega) (by first | assumption | exact KeM.rf _) (by omega)
    · refine ok_ck (by omega) (by omega) ?_
      refine ok_nm (fun σ11 hs2 => ?_)
      have hI3 : IvM g σ11 := by rw [hs2]; exact IvM.wI hI rfl (show 0 ≤ (x2 : Int32).toInt by omega) (show (x2 : Int32).toInt ≤ 4 by omega)
      have : (x2 + 1).toInt = x2.toInt + 1 := by have : (1 : Int32).toInt = 1 := rfl; rw [i32_add (by omega) (by omega)]; omega
      have : DjM σ11 (x2 + 1) := by rw [hs2]; exact DjM.step (by assumption) (by omega) (by omega) rfl rfl
      have : (σ11.1 0 9).toInt = (σ.1 0 9).toInt := by rw [hs2]; rfl
      have : (σ11.1 0 30).toInt = (σ.1 0 30).toInt := by rw [hs2]; rfl
      have : (1 : Int32).toInt = 1 := by decide
      have : ((x2 + 1) : Int32).toInt = (x2 : Int32).toInt + (1 : Int32).toInt := i32_add (by omega) (by omega)
      refine ok_nmI (fun v12 hv12 he4 => ?_)
      have : DjM σ11 v12 := by rw [hv12]; assumption
      exact ih σ11 x1 v12 hI3 (by omega) (by omega) (by omega) (by omega) (by omega) (by omega) (by first | assumption | exact KeM.rf _) (by omega)

theorem sX12_order_93 {g : Nat} (k19 : S2 → Int32 → Int32 → Option (Int32 × S2)) (σ : S2) (x1 : Int32) (x2 : Int32) (hI : IvM g σ) (p9000 : 0 ≤ x1.toInt) (p9001 : x1.toInt ≤ 9) (p9002 : 0 ≤ x2.toInt) (p9003 : x2.toInt ≤ 31) (p9004 : g = 0) (p9005 : x1.toInt < (σ.1 0 9).toInt) (hk19 : ∀ (y0 : S2) (y1 : Int32) (y2 : Int32), IvM g y0 → 0 ≤ y1.toInt → y1.toInt ≤ 9 → 0 ≤ y2.toInt → y2.toInt ≤ 32 → g = 0 → y1.toInt < (y0.1 0 9).toInt → x2.toInt + 1 ≤ y2.toInt → Ok (fun z => IvM g z.2 ∧ (-2) ≤ z.1.toInt) (k19 y0 y1 y2)) : Ok (fun z => IvM g z.2 ∧ (-2) ≤ z.1.toInt) (fX12_order_93 k19 σ x1 x2) := by
  have hFU : ((FU : Nat) : Int) = 100000 := rfl
  unfold fX12_order_93
  have : (1 : Int32).toInt = 1 := by decide
  have : ((x2 + 1) : Int32).toInt = (x2 : Int32).toInt + (1 : Int32).toInt := i32_add (by omega) (by omega)
  refine ok_nmI (fun v13 hv13 he1 => ?_)
  exact hk19 σ x1 v13 hI (by omega) (by omega) (by omega) (by omega) (by omega) (by omega) (by omega)

theorem sX12_order_57 {g : Nat} (k19 : S2 → Int32 → Int32 → Option (Int32 × S2)) : ∀ (n : Nat) (σ : S2) (x1 : Int32) (x2 : Int32) (x3 : Int32), IvM g σ → 0 ≤ x1.toInt → x1.toInt ≤ 9 → 0 ≤ x2.toInt → x2.toInt ≤ 31 → 0 ≤ x3.toInt → x3.toInt ≤ 40 → g = 0 → x1.toInt < (σ.1 0 9).toInt → 40 - x3.toInt < (n : Int) → (∀ (y0 : S2) (y1 : Int32) (y2 : Int32), IvM g y0 → 0 ≤ y1.toInt → y1.toInt ≤ 9 → 0 ≤ y2.toInt → y2.toInt ≤ 32 → g = 0 → y1.toInt < (y0.1 0 9).toInt → x2.toInt + 1 ≤ y2.toInt → Ok (fun z => IvM g z.2 ∧ (-2) ≤ z.1.toInt) (k19 y0 y1 y2)) → Ok (fun z => IvM g z.2 ∧ (-2) ≤ z.1.toInt) (fX12_order_57 k19 n σ x1 x2 x3) := by
  have hFU : ((FU : Nat) : Int) = 100000 := rfl
  intro n
  induction n with
  | zero => intro σ x1 x2 x3 hI p9000 p9001 p9002 p9003 p9004 p9005 p9006 p9007 hm hk19; exfalso; omega
  | succ n ih =>
    intro σ x1 x2 x3 hI p9000 p9001 p9002 p9003 p9004 p9005 p9006 p9007 hm hk19
    unfold fX12_order_57
    have : 0 ≤ (σ.1 0 0).toInt ∧ (σ.1 0 0).toInt ≤ 40 := hI.1 0 0
    refine ok_le (fun h1 => ?_) (fun h1 => ?_)
    · exact sX12_order_93 k19 σ x1 x2 hI (by omega) (by omega) (by omega) (by omega) (by omega) (by omega) (fun y0 y1 y2 q0 q1 q2 q3 q4 q5 q6 q7 => hk19 y0 y1 y2 q0 q1 q2 q3 q4 q5 q6 (by omega))
    · have : (10 : Int32).toInt = 10 := by decide
      have : 0 ≤ (σ.1 0 9).toInt ∧ (σ.1 0 9).toInt ≤ 10 := hI.1 0 9
      refine ok_bs (sX12_chooseName (σ.1 0 9).toInt σ 10 x3 hI (by omega) (by omega) (by omega) (by omega) (by omega) (by omega)) (fun r14 σ15 hr2 => ?_)
      obtain ⟨p3, p4⟩ := hr2
      have p3 : IvM g σ15 := p3
      have p4 : (σ15.1 0 9).toInt = (σ.1 0 9).toInt := p4
      refine ok_bi (sX12_bits σ15 p3) (fun r17 hr5 => ?_)
      obtain ⟨p6, p7⟩ := hr5
      have p6 : 0 ≤ r17.toInt := p6
      have p7 : r17.toInt ≤ 4095 := p7
      have : (40 : Int32).toInt = 40 := by decide
      have : ((40 * x2) : Int32).toInt = 40 * (x2 : Int32).toInt := i32_mulL (by omega) (by omega) (by omega)
      have : (((40 * x2) + x3) : Int32).toInt = ((40 * x2) : Int32).toInt + (x3 : Int32).toInt := i32_add (by omega) (by omega)
      refine ok_ck (by omega) (by omega) ?_
      refine ok_nm (fun σ19 hs8 => ?_)
      have hI9 : IvM g σ19 := by rw [hs8]; exact IvM.wI p3 rfl (show 0 ≤ (r17 : Int32).toInt by omega) (show (r17 : Int32).toInt ≤ 4095 by omega)
      have : (σ19.1 0 9).toInt = (σ15.1 0 9).toInt := by rw [hs8]; rfl
      have : (σ19.1 39 0).toInt = (σ15.1 39 0).toInt := by rw [hs8]; rfl
      have : (σ19.1 39 1).toInt = (σ15.1 39 1).toInt := by rw [hs8]; rfl
      have : (σ19.1 39 2).toInt = (σ15.1 39 2).toInt := by rw [hs8]; rfl
      have : (σ19.1 39 3).toInt = (σ15.1 39 3).toInt := by rw [hs8]; rfl
      have : (σ19.1 39 4).toInt = (σ15.1 39 4).toInt := by rw [hs8]; rfl
      have : (σ19.1 0 30).toInt = (σ15.1 0 30).toInt := by rw [hs8]; rfl
      have : (1 : Int32).toInt = 1 := by decide
      have : ((x3 + 1) : Int32).toInt = (x3 : Int32).toInt + (1 : Int32).toInt := i32_add (by omega) (by omega)
      refine ok_nmI (fun v20 hv20 he10 => ?_)
      exact ih σ19 x1 x2 v20 hI9 (by omega) (by omega) (by omega) (by omega) (by omega) (by omega) (by omega) (by omega) (by omega) (fun y0 y1 y2 q0 q1 q2 q3 q4 q5 q6 q7 => hk19 y0 y1 y2 q0 q1 q2 q3 q4 q5 q6 (by omega))

theorem sX12_order_19 {g : Nat} : ∀ (n : Nat) (σ : S2) (x1 : Int32) (x2 : Int32), IvM g σ → 0 ≤ x1.toInt → x1.toInt ≤ 9 → 0 ≤ x2.toInt → x2.toInt ≤ 32 → g = 0 → x1.toInt < (σ.1 0 9).toInt → 32 - x2.toInt < (n : Int) → Ok (fun z => IvM g z.2 ∧ (-2) ≤ z.1.toInt) (fX12_order_19 n σ x1 x2) := by
  have hFU : ((FU : Nat) : Int) = 100000 := rfl
  intro n
  induction n with
  | zero => intro σ x1 x2 hI p9000 p9001 p9002 p9003 p9004 p9005 hm; exfalso; omega
  | succ n ih =>
    intro σ x1 x2 hI p9000 p9001 p9002 p9003 p9004 p9005 hm
    unfold fX12_order_19
    have : (1 : Int32).toInt = 1 := by decide
    have : 0 ≤ (σ.1 0 30).toInt ∧ (σ.1 0 30).toInt ≤ 5 := hI.1 0 30
    have : (31 : Int32).toInt = 31 := by decide
    have := i32_andR (a := (σ.1 0 30)) (m := 31) (by omega)
    have := i32_andL (a := (σ.1 0 30)) (m := 31) (by omega)
    have : 1 ≤ ((1 <<< ((σ.1 0 30) &&& 31)) : Int32).toInt ∧ ((1 <<< ((σ.1 0 30) &&& 31)) : Int32).toInt ≤ 32 := i32_shlB 5 (by omega) (by omega) (by decide)
    refine ok_le (fun h1 => ?_) (fun h1 => ?_)
    · have : DjM σ 0 := fun i hi => by have : (0 : Int32).toInt = 0 := rfl; exfalso; omega
      have : (0 : Int32).toInt = 0 := by decide
      exact sX12_order_101 FU σ x1 0 hI (by omega) (by omega) (by omega) (by omega) (by omega) (by omega) (by first | assumption | exact KeM.rf _) (by omega)
    · refine ok_bi (sX12_setBy σ x1 x2 hI (by omega) (by omega) (by omega) (by omega) (by omega)) (fun r21 hr2 => ?_)
      obtain ⟨p3, p4, p5⟩ := hr2
      have p3 : 0 ≤ r21.toInt := p3
      have p4 : r21.toInt ≤ 4095 := p4
      have p5 : SsM σ r21 := p5
      have : (0 : Int32).toInt = 0 := by decide
      refine ok_eq (fun h6 => ?_) (fun h6 => ?_)
      · exact sX12_order_93 (fX12_order_19 n) σ x1 x2 hI (by omega) (by omega) (by omega) (by omega) (by omega) (by omega) (fun y0 y1 y2 q0 q1 q2 q3 q4 q5 q6 q7 => ih y0 y1 y2 q0 q1 q2 q3 q4 q5 q6 (by omega))
      · refine ok_bi (sX12_setBy σ x1 x2 hI (by omega) (by omega) (by omega) (by omega) (by omega)) (fun r23 hr7 => ?_)
        obtain ⟨p8, p9, p10⟩ := hr7
        have p8 : 0 ≤ r23.toInt := p8
        have p9 : r23.toInt ≤ 4095 := p9
        have p10 : SsM σ r23 := p10
        refine ok_ck (by omega) (by omega) ?_
        have := i32_rng (σ.1 9 (Int32.toNatClampNeg x1))
        refine ok_nmI (fun v25 hv25 he11 => ?_)
        have := i32_rng v25
        have : 0 ≤ (σ.1 0 9).toInt ∧ (σ.1 0 9).toInt ≤ 10 := hI.1 0 9
        refine ok_bs (sX12_tries (σ.1 0 9).toInt σ x1 r23 v25 hI (by omega) (by omega) (by omega) (by omega) (by omega) (by omega) (by first | assumption | exact KeM.rf _)) (fun r26 σ27 hr12 => ?_)
        obtain ⟨p13, p14, p15⟩ := hr12
        have p13 : IvM g σ27 := p13
        have p14 : (σ27.1 0 9).toInt = (σ.1 0 9).toInt := p14
        have p15 : FaM σ27 (Int32.toNatClampNeg 10) := p15
        exact sX12_order_57 (fX12_order_19 n) FU σ27 x1 x2 0 p13 (by omega) (by omega) (by omega) (by omega) (by omega) (by omega) (by omega) (by omega) (by omega) (fun y0 y1 y2 q0 q1 q2 q3 q4 q5 q6 q7 => ih y0 y1 y2 q0 q1 q2 q3 q4 q5 q6 (by omega))

theorem sX12_order_0 {g : Nat} (σ : S2) (x1 : Int32) (hI : IvM g σ) (p9000 : g = 0)  : Ok (fun z => IvM g z.2 ∧ (-2) ≤ z.1.toInt) (fX12_order_0 σ x1) := by
  have hFU : ((FU : Nat) : Int) = 100000 := rfl
  unfold fX12_order_0
  have := i32_rng x1
  refine ok_bi (sX12_isTable σ x1 hI) (fun r29 hr1 => ?_)
  obtain ⟨p2, p3, p4⟩ := hr1
  have p2 : 0 ≤ r29.toInt := p2
  have p3 : r29.toInt ≤ 1 := p3
  have p4 : r29.toInt ≠ 0 → 0 ≤ x1.toInt ∧ x1.toInt < (σ.1 0 9).toInt := p4
  have : 0 ≤ (σ.1 0 9).toInt ∧ (σ.1 0 9).toInt ≤ 10 := hI.1 0 9
  have : (0 : Int32).toInt = 0 := by decide
  refine ok_eq (fun h5 => ?_) (fun h5 => ?_)
  · have : ((-1) : Int32).toInt = (-1) := by decide
    exact ok_some ⟨hI, by show (-2) ≤ ((-1) : Int32).toInt; omega⟩
  · have : 0 ≤ (σ.1 0 30).toInt ∧ (σ.1 0 30).toInt ≤ 5 := hI.1 0 30
    refine ok_eq (fun h6 => ?_) (fun h6 => ?_)
    · have : ((-1) : Int32).toInt = (-1) := by decide
      exact ok_some ⟨hI, by show (-2) ≤ ((-1) : Int32).toInt; omega⟩
    · exact sX12_order_19 FU σ x1 0 hI (by omega) (by omega) (by omega) (by omega) (by omega) (by omega) (by omega)

theorem sX12_order {g : Nat} (σ : S2) (a1 : Int32) (hI : IvM g σ) (p9000 : g = 0)  : Ok (fun z => IvM g z.2 ∧ (-2) ≤ z.1.toInt) (fX12_order σ a1) := by
  unfold fX12_order
  exact sX12_order_0 σ a1 hI (by assumption)

theorem sX12_ordered_0 {g : Nat} (σ : S2) (x1 : Int32) (hI : IvM g σ)   : Ok (fun z => (-1) ≤ z.toInt ∧ z.toInt ≤ 4) (fX12_ordered_0 σ x1) := by
  have hFU : ((FU : Nat) : Int) = 100000 := rfl
  unfold fX12_ordered_0
  have := i32_rng x1
  have : (0 : Int32).toInt = 0 := by decide
  have : 0 ≤ (σ.1 0 32).toInt ∧ (σ.1 0 32).toInt ≤ 5 := hI.1 0 32
  have : (1 : Int32).toInt = 1 := by decide
  have : (((σ.1 0 32) - 1) : Int32).toInt = ((σ.1 0 32) : Int32).toInt - (1 : Int32).toInt := i32_sub (by omega) (by omega)
  refine ok_bi (sX12_in σ x1 0 ((σ.1 0 32) - 1) hI (by omega) (by omega) (by omega) (by omega)) (fun r1 hr1 => ?_)
  obtain ⟨p2, p3, p4⟩ := hr1
  have p2 : 0 ≤ r1.toInt := p2
  have p3 : r1.toInt ≤ 1 := p3
  have p4 : r1.toInt ≠ 0 → (0 : Int32).toInt ≤ x1.toInt ∧ x1.toInt ≤ ((σ.1 0 32) - 1).toInt := p4
  refine ok_eq (fun h5 => ?_) (fun h5 => ?_)
  · have : ((-1) : Int32).toInt = (-1) := by decide
    exact ok_some ⟨by show (-1) ≤ ((-1) : Int32).toInt; omega, by show ((-1) : Int32).toInt ≤ 4; omega⟩
  · refine ok_ck (by omega) (by omega) ?_
    have : 0 ≤ (σ.1 27 (Int32.toNatClampNeg x1)).toInt ∧ (σ.1 27 (Int32.toNatClampNeg x1)).toInt ≤ 4 := hI.1 27 (Int32.toNatClampNeg x1)
    refine ok_nmI (fun v3 hv3 he6 => ?_)
    exact ok_some ⟨by show (-1) ≤ v3.toInt; omega, by show v3.toInt ≤ 4; omega⟩

theorem sX12_ordered {g : Nat} (σ : S2) (a1 : Int32) (hI : IvM g σ)   : Ok (fun z => (-1) ≤ z.toInt ∧ z.toInt ≤ 4) (fX12_ordered σ a1) := by
  unfold fX12_ordered
  exact sX12_ordered_0 σ a1 hI

theorem sX12_turning_0 {g : Nat} (σ : S2) (x1 : Int32) (hI : IvM g σ)   : Ok (fun z => IvM g z.2 ∧ (-3) ≤ z.1.toInt ∧ z.1.toInt ≤ 6) (fX12_turning_0 σ x1) := by
  have hFU : ((FU : Nat) : Int) = 100000 := rfl
  unfold fX12_turning_0
  have : 0 ≤ (σ.1 0 34).toInt ∧ (σ.1 0 34).toInt ≤ 6 := hI.1 0 34
  have : (6 : Int32).toInt = 6 := by decide
  refine ok_eq (fun h1 => ?_) (fun h1 => ?_)
  · have : ((-3) : Int32).toInt = (-3) := by decide
    exact ok_some ⟨hI, by show (-3) ≤ ((-3) : Int32).toInt; omega, by show ((-3) : Int32).toInt ≤ 6; omega⟩
  · refine ok_ck (by omega) (by omega) ?_
    have := i32_rng x1
    refine ok_nm (fun σ1 hs2 => ?_)
    have hI3 : IvM g σ1 := by rw [hs2]; exact IvM.wI hI rfl (i32_rng _).1 (i32_rng _).2
    have : (σ1.1 0 34).toInt = (σ.1 0 34).toInt := by rw [hs2]; rfl
    have : 0 ≤ (σ1.1 0 34).toInt ∧ (σ1.1 0 34).toInt ≤ 6 := hI3.1 0 34
    have : (1 : Int32).toInt = 1 := by decide
    have : (((σ1.1 0 34) + 1) : Int32).toInt = ((σ1.1 0 34) : Int32).toInt + (1 : Int32).toInt := i32_add (by omega) (by omega)
    refine ok_nm (fun σ2 hs4 => ?_)
    have hI5 : IvM g σ2 := by rw [hs4]; exact IvM.wI hI3 rfl (show 0 ≤ (((σ1.1 0 34) + 1) : Int32).toInt by omega) (show (((σ1.1 0 34) + 1) : Int32).toInt ≤ 6 by omega)
    have : (σ2.1 0 34).toInt = (((σ1.1 0 34) + 1) : Int32).toInt := by rw [hs4]; rfl
    have : 0 ≤ (σ2.1 0 34).toInt ∧ (σ2.1 0 34).toInt ≤ 6 := hI5.1 0 34
    exact ok_some ⟨hI5, by show (-3) ≤ (σ2.1 0 34).toInt; omega, by show (σ2.1 0 34).toInt ≤ 6; omega⟩

theorem sX12_turning {g : Nat} (σ : S2) (a1 : Int32) (hI : IvM g σ)   : Ok (fun z => IvM g z.2 ∧ (-3) ≤ z.1.toInt ∧ z.1.toInt ≤ 6) (fX12_turning σ a1) := by
  unfold fX12_turning
  exact sX12_turning_0 σ a1 hI

theorem sX12_harm_129 {g : Nat} (k21 : S2 → Int32 → Int32 → Int32 → Option (Int32 × S2)) (σ : S2) (x1 : Int32) (x2 : Int32) (x3 : Int32) (hI : IvM g σ) (p9000 : 0 ≤ x1.toInt) (p9001 : x1.toInt ≤ 9) (p9002 : 0 ≤ x2.toInt) (p9003 : x2.toInt ≤ 5) (p9004 : 0 ≤ x3.toInt) (p9005 : x3.toInt ≤ 5) (p9006 : g = 0) (p9007 : x1.toInt < (σ.1 0 9).toInt) (hk21 : ∀ (y0 : S2) (y1 : Int32) (y2 : Int32) (y3 : Int32), IvM g y0 → 0 ≤ y1.toInt → y1.toInt ≤ 9 → (-1) ≤ y2.toInt → y2.toInt ≤ 5 → 0 ≤ y3.toInt → y3.toInt ≤ 6 → g = 0 → y1.toInt < (y0.1 0 9).toInt → x3.toInt + 1 ≤ y3.toInt → Ok (fun z => IvM g z.2 ∧ (-1) ≤ z.1.toInt ∧ z.1.toInt ≤ 5) (k21 y0 y1 y2 y3)) : Ok (fun z => IvM g z.2 ∧ (-1) ≤ z.1.toInt ∧ z.1.toInt ≤ 5) (fX12_harm_129 k21 σ x1 x2 x3) := by
  have hFU : ((FU : Nat) : Int) = 100000 := rfl
  unfold fX12_harm_129
  have : (1 : Int32).toInt = 1 := by decide
  have : ((x3 + 1) : Int32).toInt = (x3 : Int32).toInt + (1 : Int32).toInt := i32_add (by omega) (by omega)
  refine ok_nmI (fun v1 hv1 he1 => ?_)
  exact hk21 σ x1 x2 v1 hI (by omega) (by omega) (by omega) (by omega) (by omega) (by omega) (by omega) (by omega) (by omega)

theorem sX12_harm_121 {g : Nat} (k21 : S2 → Int32 → Int32 → Int32 → Option (Int32 × S2)) (σ : S2) (x1 : Int32) (x3 : Int32) (x4 : Int32) (hI : IvM g σ) (p9000 : 0 ≤ x1.toInt) (p9001 : x1.toInt ≤ 9) (p9002 : 0 ≤ x3.toInt) (p9003 : x3.toInt ≤ 5) (p9004 : 0 ≤ x4.toInt) (p9005 : g = 0) (p9006 : x1.toInt < (σ.1 0 9).toInt) (hk21 : ∀ (y0 : S2) (y1 : Int32) (y2 : Int32) (y3 : Int32), IvM g y0 → 0 ≤ y1.toInt → y1.toInt ≤ 9 → (-1) ≤ y2.toInt → y2.toInt ≤ 5 → 0 ≤ y3.toInt → y3.toInt ≤ 6 → g = 0 → y1.toInt < (y0.1 0 9).toInt → x3.toInt + 1 ≤ y3.toInt → Ok (fun z => IvM g z.2 ∧ (-1) ≤ z.1.toInt ∧ z.1.toInt ≤ 5) (k21 y0 y1 y2 y3)) : Ok (fun z => IvM g z.2 ∧ (-1) ≤ z.1.toInt ∧ z.1.toInt ≤ 5) (fX12_harm_121 k21 σ x1 x3 x4) := by
  have hFU : ((FU : Nat) : Int) = 100000 := rfl
  unfold fX12_harm_121
  have := i32_rng x4
  refine ok_nm (fun σ2 hs1 => ?_)
  have hI2 : IvM g σ2 := by rw [hs1]; exact IvM.wI hI rfl (show (-1) ≤ (x4 : Int32).toInt by omega) (i32_rng _).2
  have : (σ2.1 0 9).toInt = (σ.1 0 9).toInt := by rw [hs1]; rfl
  exact sX12_harm_129 k21 σ2 x1 x3 x3 hI2 (by omega) (by omega) (by omega) (by omega) (by omega) (by omega) (by omega) (by omega) (fun y0 y1 y2 y3 q0 q1 q2 q3 q4 q5 q6 q7 q8 q9 => hk21 y0 y1 y2 y3 q0 q1 q2 q3 q4 q5 q6 q7 q8 (by omega))

