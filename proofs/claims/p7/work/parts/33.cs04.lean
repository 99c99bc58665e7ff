theorem sX11_element_0 (τ : Nat) (σ : S2) (x1 : Int32) (x2 : Int32) (hI : IvC 0 τ σ)   : Ok (fun z => True) (fX11_element_0 τ σ x1 x2) := by
  have hFU : ((FU : Nat) : Int) = 100000 := rfl
  unfold fX11_element_0
  have := i32_rng x1
  refine ok_bi (sX11_isShelf τ σ x1 hI) (fun r1 hr1 => ?_)
  obtain ⟨p2, p3, p4⟩ := hr1
  have p2 : 0 ≤ r1.toInt := p2
  have p3 : r1.toInt ≤ 1 := p3
  have p4 : r1.toInt ≠ 0 → 0 ≤ x1.toInt ∧ x1.toInt ≤ 5 := p4
  have : (0 : Int32).toInt = 0 := by decide
  refine ok_eq (fun h5 => ?_) (fun h5 => ?_)
  · exact sX11_element_19 τ σ hI
  · have := i32_rng x2
    refine ok_bi (sX7_refusalAt τ σ x1 x2 hI (by omega) (by omega)) (fun r3 hr6 => ?_)
    obtain ⟨p7, p8, p9⟩ := hr6
    have p7 : (-13) ≤ r3.toInt := p7
    have p8 : r3.toInt ≤ 0 := p8
    have p9 : r3.toInt = 0 → 0 ≤ x2.toInt ∧ x2.toInt ≤ 59 := p9
    refine ok_eq (fun h10 => ?_) (fun h10 => ?_)
    · refine ok_ck (by omega) (by omega) ?_
      refine ok_ck (by omega) (by omega) ?_
      refine ok_nm (fun v6 _ => ?_)
      exact ok_some trivial
    · exact sX11_element_19 τ σ hI

theorem sX11_element (τ : Nat) (σ : S2) (a1 : Int32) (a2 : Int32) (hI : IvC 0 τ σ)   : Ok (fun z => True) (fX11_element τ σ a1 a2) := by
  unfold fX11_element
  exact sX11_element_0 τ σ a1 a2 hI

theorem sX11_shift_0 (τ : Nat) (σ : S2) (x1 : Int32) (x2 : Int32) (x3 : Int32) (x4 : Int32) (x5 : Int32) (hI : IvC 0 τ σ)   : Ok (fun z => IvC 0 τ z.2 ∧ (-13) ≤ z.1.toInt ∧ z.1.toInt ≤ 60) (fX11_shift_0 τ σ x1 x2 x3 x4 x5) := by
  have hFU : ((FU : Nat) : Int) = 100000 := rfl
  unfold fX11_shift_0
  have := i32_rng x1
  refine ok_bi (sX11_isShelf τ σ x1 hI) (fun r1 hr1 => ?_)
  obtain ⟨p2, p3, p4⟩ := hr1
  have p2 : 0 ≤ r1.toInt := p2
  have p3 : r1.toInt ≤ 1 := p3
  have p4 : r1.toInt ≠ 0 → 0 ≤ x1.toInt ∧ x1.toInt ≤ 5 := p4
  have : (0 : Int32).toInt = 0 := by decide
  refine ok_eq (fun h5 => ?_) (fun h5 => ?_)
  · have : ((-1) : Int32).toInt = (-1) := by decide
    exact ok_some ⟨hI, by show (-13) ≤ ((-1) : Int32).toInt; omega, by show ((-1) : Int32).toInt ≤ 60; omega⟩
  · have := i32_rng x3
    refine ok_bi (sX11_isShelf τ σ x3 hI) (fun r3 hr6 => ?_)
    obtain ⟨p7, p8, p9⟩ := hr6
    have p7 : 0 ≤ r3.toInt := p7
    have p8 : r3.toInt ≤ 1 := p8
    have p9 : r3.toInt ≠ 0 → 0 ≤ x3.toInt ∧ x3.toInt ≤ 5 := p9
    refine ok_eq (fun h10 => ?_) (fun h10 => ?_)
    · have : ((-1) : Int32).toInt = (-1) := by decide
      exact ok_some ⟨hI, by show (-13) ≤ ((-1) : Int32).toInt; omega, by show ((-1) : Int32).toInt ≤ 60; omega⟩
    · refine ok_bi (sX7_isEmpty τ σ x1 hI (by omega) (by omega)) (fun r5 hr11 => ?_)
      obtain ⟨p12, p13⟩ := hr11
      have p12 : 0 ≤ r5.toInt := p12
      have p13 : r5.toInt ≤ 1 := p13
      refine ok_eq (fun h14 => ?_) (fun h14 => ?_)
      · refine ok_bi (sX7_isEmpty τ σ x3 hI (by omega) (by omega)) (fun r7 hr15 => ?_)
        obtain ⟨p16, p17⟩ := hr15
        have p16 : 0 ≤ r7.toInt := p16
        have p17 : r7.toInt ≤ 1 := p17
        refine ok_eq (fun h18 => ?_) (fun h18 => ?_)
        · refine ok_bi (sX7_isRow τ σ x1 hI (by omega) (by omega)) (fun r9 hr19 => ?_)
          obtain ⟨p20, p21⟩ := hr19
          have p20 : 0 ≤ r9.toInt := p20
          have p21 : r9.toInt ≤ 1 := p21
          refine ok_eq (fun h22 => ?_) (fun h22 => ?_)
          · have : ((-12) : Int32).toInt = (-12) := by decide
            exact ok_some ⟨hI, by show (-13) ≤ ((-12) : Int32).toInt; omega, by show ((-12) : Int32).toInt ≤ 60; omega⟩
          · refine ok_bi (sX7_isRow τ σ x3 hI (by omega) (by omega)) (fun r11 hr23 => ?_)
            obtain ⟨p24, p25⟩ := hr23
            have p24 : 0 ≤ r11.toInt := p24
            have p25 : r11.toInt ≤ 1 := p25
            refine ok_eq (fun h26 => ?_) (fun h26 => ?_)
            · have : ((-12) : Int32).toInt = (-12) := by decide
              exact ok_some ⟨hI, by show (-13) ≤ ((-12) : Int32).toInt; omega, by show ((-12) : Int32).toInt ≤ 60; omega⟩
            · refine ok_ck (by omega) (by omega) ?_
              have : (-1) ≤ (σ.1 39 (Int32.toNatClampNeg x1)).toInt ∧ (σ.1 39 (Int32.toNatClampNeg x1)).toInt ≤ 4 := hI.1 39 (Int32.toNatClampNeg x1)
              refine ok_nmI (fun v13 hv13 he27 => ?_)
              refine ok_ck (by omega) (by omega) ?_
              have : (-1) ≤ (σ.1 39 (Int32.toNatClampNeg x3)).toInt ∧ (σ.1 39 (Int32.toNatClampNeg x3)).toInt ≤ 4 := hI.1 39 (Int32.toNatClampNeg x3)
              refine ok_nmI (fun v14 hv14 he28 => ?_)
              refine ok_eq (fun h29 => ?_) (fun h29 => ?_)
              · have := i32_rng x2
                have := i32_rng x5
                refine ok_bi (sX7_spans τ σ x1 x2 x5 hI (by omega) (by omega)) (fun r15 hr30 => ?_)
                obtain ⟨p31, p32, p33⟩ := hr30
                have p31 : 0 ≤ r15.toInt := p31
                have p32 : r15.toInt ≤ 1 := p32
                have p33 : r15.toInt ≠ 0 → 0 ≤ x2.toInt ∧ 0 ≤ x5.toInt ∧ x2.toInt + x5.toInt ≤ 60 := p33
                refine ok_eq (fun h34 => ?_) (fun h34 => ?_)
                · have : ((-13) : Int32).toInt = (-13) := by decide
                  exact ok_some ⟨hI, by show (-13) ≤ ((-13) : Int32).toInt; omega, by show ((-13) : Int32).toInt ≤ 60; omega⟩
                · have := i32_rng x4
                  refine ok_bi (sX7_spans τ σ x3 x4 x5 hI (by omega) (by omega)) (fun r17 hr35 => ?_)
                  obtain ⟨p36, p37, p38⟩ := hr35
                  have p36 : 0 ≤ r17.toInt := p36
                  have p37 : r17.toInt ≤ 1 := p37
                  have p38 : r17.toInt ≠ 0 → 0 ≤ x4.toInt ∧ 0 ≤ x5.toInt ∧ x4.toInt + x5.toInt ≤ 60 := p38
                  refine ok_eq (fun h39 => ?_) (fun h39 => ?_)
                  · have : ((-13) : Int32).toInt = (-13) := by decide
                    exact ok_some ⟨hI, by show (-13) ≤ ((-13) : Int32).toInt; omega, by show ((-13) : Int32).toInt ≤ 60; omega⟩
                  · refine ok_ck (by omega) (by omega) ?_
                    refine ok_ck (by omega) (by omega) ?_
                    refine ok_cpL (by omega) (by omega) (by omega) (by omega) (by omega) ?_
                    refine ok_nm (fun σ21 hs40 => ?_)
                    have hI41 : IvC 0 τ σ21 := by rw [hs40]; exact IvC.wLL hI
                    exact ok_some ⟨hI41, by show (-13) ≤ x5.toInt; omega, by show x5.toInt ≤ 60; omega⟩
              · have : ((-12) : Int32).toInt = (-12) := by decide
                exact ok_some ⟨hI, by show (-13) ≤ ((-12) : Int32).toInt; omega, by show ((-12) : Int32).toInt ≤ 60; omega⟩
        · have : ((-11) : Int32).toInt = (-11) := by decide
          exact ok_some ⟨hI, by show (-13) ≤ ((-11) : Int32).toInt; omega, by show ((-11) : Int32).toInt ≤ 60; omega⟩
      · have : ((-11) : Int32).toInt = (-11) := by decide
        exact ok_some ⟨hI, by show (-13) ≤ ((-11) : Int32).toInt; omega, by show ((-11) : Int32).toInt ≤ 60; omega⟩

theorem sX11_shift (τ : Nat) (σ : S2) (a1 : Int32) (a2 : Int32) (a3 : Int32) (a4 : Int32) (a5 : Int32) (hI : IvC 0 τ σ)   : Ok (fun z => IvC 0 τ z.2 ∧ (-13) ≤ z.1.toInt ∧ z.1.toInt ≤ 60) (fX11_shift τ σ a1 a2 a3 a4 a5) := by
  unfold fX11_shift
  exact sX11_shift_0 τ σ a1 a2 a3 a4 a5 hI

theorem sX11_isUnder_4 (τ : Nat) : ∀ (n : Nat) (σ : S2) (x1 : Int32) (x2 : Int32) (x3 : Int32), IvC 0 τ σ → 0 ≤ x1.toInt → x1.toInt ≤ 6 → (-1) ≤ x2.toInt → x2.toInt ≤ 6 → 0 ≤ x3.toInt → x3.toInt ≤ 7 → 7 - x3.toInt < (n : Int) → Ok (fun z => 0 ≤ z.toInt ∧ z.toInt ≤ 1) (fX11_isUnder_4 τ n σ x1 x2 x3) := by
  have hFU : ((FU : Nat) : Int) = 100000 := rfl
  intro n
  induction n with
  | zero => intro σ x1 x2 x3 hI p9000 p9001 p9002 p9003 p9004 p9005 hm; exfalso; omega
  | succ n ih =>
    intro σ x1 x2 x3 hI p9000 p9001 p9002 p9003 p9004 p9005 hm
    unfold fX11_isUnder_4
    have : (7 : Int32).toInt = 7 := by decide
    refine ok_le (fun h1 => ?_) (fun h1 => ?_)
    · have : (0 : Int32).toInt = 0 := by decide
      exact ok_some ⟨by show 0 ≤ (0 : Int32).toInt; omega, by show (0 : Int32).toInt ≤ 1; omega⟩
    · have : (0 : Int32).toInt = 0 := by decide
      refine ok_lt (fun h2 => ?_) (fun h2 => ?_)
      · exact ok_some ⟨by show 0 ≤ (0 : Int32).toInt; omega, by show (0 : Int32).toInt ≤ 1; omega⟩
      · refine ok_le (fun h3 => ?_) (fun h3 => ?_)
        · exfalso; omega
        · refine ok_eq (fun h4 => ?_) (fun h4 => ?_)
          · have : (1 : Int32).toInt = 1 := by decide
            exact ok_some ⟨by show 0 ≤ (1 : Int32).toInt; omega, by show (1 : Int32).toInt ≤ 1; omega⟩
          · refine ok_ck (by omega) (by omega) ?_
            have := kaI_rng (Int32.toNatClampNeg x2)
            refine ok_nmI (fun v1 hv1 he5 => ?_)
            have : (1 : Int32).toInt = 1 := by decide
            have : ((x3 + 1) : Int32).toInt = (x3 : Int32).toInt + (1 : Int32).toInt := i32_add (by omega) (by omega)
            refine ok_nmI (fun v2 hv2 he6 => ?_)
            exact ih σ x1 v1 v2 hI (by omega) (by omega) (by omega) (by omega) (by omega) (by omega) (by omega)

theorem sX11_isUnder_0 (τ : Nat) (σ : S2) (x0 : Int32) (x1 : Int32) (hI : IvC 0 τ σ) (p9000 : 0 ≤ x0.toInt) (p9001 : x0.toInt ≤ 6) (p9002 : 0 ≤ x1.toInt) (p9003 : x1.toInt ≤ 6)  : Ok (fun z => 0 ≤ z.toInt ∧ z.toInt ≤ 1) (fX11_isUnder_0 τ σ x0 x1) := by
  have hFU : ((FU : Nat) : Int) = 100000 := rfl
  unfold fX11_isUnder_0
  have : (0 : Int32).toInt = 0 := by decide
  exact sX11_isUnder_4 τ FU σ x1 x0 0 hI (by omega) (by omega) (by omega) (by omega) (by omega) (by omega) (by omega)

theorem sX11_isUnder (τ : Nat) (σ : S2) (a0 : Int32) (a1 : Int32) (hI : IvC 0 τ σ) (p9000 : 0 ≤ a0.toInt) (p9001 : a0.toInt ≤ 6) (p9002 : 0 ≤ a1.toInt) (p9003 : a1.toInt ≤ 6)  : Ok (fun z => 0 ≤ z.toInt ∧ z.toInt ≤ 1) (fX11_isUnder τ σ a0 a1) := by
  unfold fX11_isUnder
  exact sX11_isUnder_0 τ σ a0 a1 hI (by assumption) (by assumption) (by assumption) (by assumption)

theorem sX11_taken_0 (τ : Nat) (σ : S2) (x1 : Int32) (x2 : Int32) (hI : IvC 0 τ σ)   : Ok (fun z => (-12) ≤ z.toInt ∧ z.toInt ≤ 6) (fX11_taken_0 τ σ x1 x2) := by
  have hFU : ((FU : Nat) : Int) = 100000 := rfl
  unfold fX11_taken_0
  have := i32_rng x1
  refine ok_bi (sX11_isShelf τ σ x1 hI) (fun r1 hr1 => ?_)
  obtain ⟨p2, p3, p4⟩ := hr1
  have p2 : 0 ≤ r1.toInt := p2
  have p3 : r1.toInt ≤ 1 := p3
  have p4 : r1.toInt ≠ 0 → 0 ≤ x1.toInt ∧ x1.toInt ≤ 5 := p4
  have : (0 : Int32).toInt = 0 := by decide
  refine ok_eq (fun h5 => ?_) (fun h5 => ?_)
  · have : ((-1) : Int32).toInt = (-1) := by decide
    exact ok_some ⟨by show (-12) ≤ ((-1) : Int32).toInt; omega, by show ((-1) : Int32).toInt ≤ 6; omega⟩
  · have := i32_rng x2
    refine ok_bi (sX11_isKind τ σ x2 hI) (fun r3 hr6 => ?_)
    obtain ⟨p7, p8, p9⟩ := hr6
    have p7 : 0 ≤ r3.toInt := p7
    have p8 : r3.toInt ≤ 1 := p8
    have p9 : r3.toInt ≠ 0 → 0 ≤ x2.toInt ∧ x2.toInt ≤ 6 := p9
    refine ok_eq (fun h10 => ?_) (fun h10 => ?_)
    · have : ((-1) : Int32).toInt = (-1) := by decide
      exact ok_some ⟨by show (-12) ≤ ((-1) : Int32).toInt; omega, by show ((-1) : Int32).toInt ≤ 6; omega⟩
    · refine ok_bi (sX7_isEmpty τ σ x1 hI (by omega) (by omega)) (fun r5 hr11 => ?_)
      obtain ⟨p12, p13⟩ := hr11
      have p12 : 0 ≤ r5.toInt := p12
      have p13 : r5.toInt ≤ 1 := p13
      refine ok_eq (fun h14 => ?_) (fun h14 => ?_)
      · refine ok_ck (by omega) (by omega) ?_
        have : (-1) ≤ (σ.1 38 (Int32.toNatClampNeg x1)).toInt ∧ (σ.1 38 (Int32.toNatClampNeg x1)).toInt ≤ 11 := hI.1 38 (Int32.toNatClampNeg x1)
        refine ok_nmI (fun v7 hv7 he15 => ?_)
        refine ok_bi (sX2_has τ σ v7 hI) (fun r8 hr16 => ?_)
        obtain ⟨p17, p18, p19⟩ := hr16
        have p17 : 0 ≤ r8.toInt := p17
        have p18 : r8.toInt ≤ 1 := p18
        have p19 : r8.toInt ≠ 0 → 0 ≤ v7.toInt ∧ v7.toInt < (σ.1 7 5).toInt := p19
        have : 0 ≤ (σ.1 7 5).toInt ∧ (σ.1 7 5).toInt ≤ 12 := hI.1 7 5
        refine ok_eq (fun h20 => ?_) (fun h20 => ?_)
        · have : ((-12) : Int32).toInt = (-12) := by decide
          exact ok_some ⟨by show (-12) ≤ ((-12) : Int32).toInt; omega, by show ((-12) : Int32).toInt ≤ 6; omega⟩
        · refine ok_ck (by omega) (by omega) ?_
          have : 0 ≤ (σ.1 8 (Int32.toNatClampNeg v7)).toInt ∧ (σ.1 8 (Int32.toNatClampNeg v7)).toInt ≤ 6 := hI.1 8 (Int32.toNatClampNeg v7)
          refine ok_nmI (fun v10 hv10 he21 => ?_)
          refine ok_bi (sX11_isUnder τ σ v10 x2 hI (by omega) (by omega) (by omega) (by omega)) (fun r11 hr22 => ?_)
          obtain ⟨p23, p24⟩ := hr22
          have p23 : 0 ≤ r11.toInt := p23
          have p24 : r11.toInt ≤ 1 := p24
          refine ok_eq (fun h25 => ?_) (fun h25 => ?_)
          · have : ((-12) : Int32).toInt = (-12) := by decide
            exact ok_some ⟨by show (-12) ≤ ((-12) : Int32).toInt; omega, by show ((-12) : Int32).toInt ≤ 6; omega⟩
          · exact ok_some ⟨by show (-12) ≤ v10.toInt; omega, by show v10.toInt ≤ 6; omega⟩
      · have : ((-11) : Int32).toInt = (-11) := by decide
        exact ok_some ⟨by show (-12) ≤ ((-11) : Int32).toInt; omega, by show ((-11) : Int32).toInt ≤ 6; omega⟩

theorem sX11_taken (τ : Nat) (σ : S2) (a1 : Int32) (a2 : Int32) (hI : IvC 0 τ σ)   : Ok (fun z => (-12) ≤ z.toInt ∧ z.toInt ≤ 6) (fX11_taken τ σ a1 a2) := by
  unfold fX11_taken
  exact sX11_taken_0 τ σ a1 a2 hI

theorem sX11_names_0 (τ : Nat) (σ : S2) (x1 : Int32) (x2 : Int32) (x3 : Int32) (hI : IvC 0 τ σ)   : Ok (fun z => IvC 0 τ z.2) (fX11_names_0 τ σ x1 x2 x3) := by
  have hFU : ((FU : Nat) : Int) = 100000 := rfl
  unfold fX11_names_0
  have := i32_rng x1
  refine ok_bi (sX11_isShelf τ σ x1 hI) (fun r1 hr1 => ?_)
  obtain ⟨p2, p3, p4⟩ := hr1
  have p2 : 0 ≤ r1.toInt := p2
  have p3 : r1.toInt ≤ 1 := p3
  have p4 : r1.toInt ≠ 0 → 0 ≤ x1.toInt ∧ x1.toInt ≤ 5 := p4
  have : (0 : Int32).toInt = 0 := by decide
  refine ok_eq (fun h5 => ?_) (fun h5 => ?_)
  · have : ((-1) : Int32).toInt = (-1) := by decide
    exact ok_some hI
  · have := i32_rng x3
    have : (1 : Int32).toInt = 1 := by decide
    refine ok_lt (fun h6 => ?_) (fun h6 => ?_)
    · have : ((-1) : Int32).toInt = (-1) := by decide
      exact ok_some hI
    · have : (20 : Int32).toInt = 20 := by decide
      refine ok_le (fun h7 => ?_) (fun h7 => ?_)
      · refine ok_bi (sX7_isEmpty τ σ x1 hI (by omega) (by omega)) (fun r3 hr8 => ?_)
        obtain ⟨p9, p10⟩ := hr8
        have p9 : 0 ≤ r3.toInt := p9
        have p10 : r3.toInt ≤ 1 := p10
        refine ok_eq (fun h11 => ?_) (fun h11 => ?_)
        · refine ok_bi (sX7_isRow τ σ x1 hI (by omega) (by omega)) (fun r5 hr12 => ?_)
          obtain ⟨p13, p14⟩ := hr12
          have p13 : 0 ≤ r5.toInt := p13
          have p14 : r5.toInt ≤ 1 := p14
          refine ok_eq (fun h15 => ?_) (fun h15 => ?_)
          · have : ((-12) : Int32).toInt = (-12) := by decide
            exact ok_some hI
          · refine ok_ck (by omega) (by omega) ?_
            have : (-1) ≤ (σ.1 39 (Int32.toNatClampNeg x1)).toInt ∧ (σ.1 39 (Int32.toNatClampNeg x1)).toInt ≤ 4 := hI.1 39 (Int32.toNatClampNeg x1)
            refine ok_nmI (fun v7 hv7 he16 => ?_)
            refine ok_eq (fun h17 => ?_) (fun h17 => ?_)
            · refine ok_ck (by omega) (by omega) ?_
              refine ok_ck (by omega) (by omega) ?_
              have : 0 ≤ (σ.1 40 (Int32.toNatClampNeg x1)).toInt ∧ (σ.1 40 (Int32.toNatClampNeg x1)).toInt ≤ 60 := hI.1 40 (Int32.toNatClampNeg x1)
              refine ok_nmI (fun v9 hv9 he18 => ?_)
              have := i32_rng x2
              refine ok_bs (sX4_addFrom τ (176 + (Int32.toNatClampNeg x1)) 60 σ v9 x2 x3 hI (by omega) (by omega) (by omega) (by omega) (by omega)) (fun r10 σ11 hr19 => ?_)
              have hr19 : IvC 0 τ σ11 := hr19
              have := i32_rng r10
              exact ok_some hr19
            · have : ((-12) : Int32).toInt = (-12) := by decide
              exact ok_some hI
        · exact ok_some hI
      · have : ((-1) : Int32).toInt = (-1) := by decide
        exact ok_some hI

theorem sX11_names (τ : Nat) (σ : S2) (a1 : Int32) (a2 : Int32) (a3 : Int32) (hI : IvC 0 τ σ)   : Ok (fun z => IvC 0 τ z.2) (fX11_names τ σ a1 a2 a3) := by
  unfold fX11_names
  exact sX11_names_0 τ σ a1 a2 a3 hI

theorem sX11_count_0 (τ : Nat) (σ : S2) (x1 : Int32) (hI : IvC 0 τ σ)   : Ok (fun z => True) (fX11_count_0 τ σ x1) := by
  have hFU : ((FU : Nat) : Int) = 100000 := rfl
  unfold fX11_count_0
  have := i32_rng x1
  have : (0 : Int32).toInt = 0 := by decide
  refine ok_eq (fun h1 => ?_) (fun h1 => ?_)
  · have : 0 ≤ (σ.1 3 3).toInt ∧ (σ.1 3 3).toInt ≤ 40 := hI.1 3 3
    exact ok_some trivial
  · have : (1 : Int32).toInt = 1 := by decide
    refine ok_eq (fun h2 => ?_) (fun h2 => ?_)
    · have : 0 ≤ (σ.1 7 5).toInt ∧ (σ.1 7 5).toInt ≤ 12 := hI.1 7 5
      exact ok_some trivial
    · have : (2 : Int32).toInt = 2 := by decide
      refine ok_eq (fun h3 => ?_) (fun h3 => ?_)
      · have : 0 ≤ (σ.1 0 6).toInt ∧ (σ.1 0 6).toInt ≤ 10 := hI.1 0 6
        exact ok_some trivial
      · have : (3 : Int32).toInt = 3 := by decide
        refine ok_eq (fun h4 => ?_) (fun h4 => ?_)
        · have : 0 ≤ (σ.1 1 1).toInt ∧ (σ.1 1 1).toInt ≤ 80 := hI.1 1 1
          exact ok_some trivial
        · have : (4 : Int32).toInt = 4 := by decide
          refine ok_eq (fun h5 => ?_) (fun h5 => ?_)
          · refine ok_bi (sX6_allCopies τ σ hI) (fun r6 hr6 => ?_)
            have := i32_rng r6
            exact ok_some trivial
          · have : (5 : Int32).toInt = 5 := by decide
            refine ok_eq (fun h7 => ?_) (fun h7 => ?_)
            · refine ok_bi (sX6_allKept τ σ hI) (fun r9 hr8 => ?_)
              have := i32_rng r9
              exact ok_some trivial
            · have : (6 : Int32).toInt = 6 := by decide
              refine ok_eq (fun h9 => ?_) (fun h9 => ?_)
              · have := i32_rng (σ.1 18 8)
                exact ok_some trivial
              · have : (7 : Int32).toInt = 7 := by decide
                refine ok_eq (fun h10 => ?_) (fun h10 => ?_)
                · have : 0 ≤ (σ.1 35 1).toInt ∧ (σ.1 35 1).toInt ≤ 1000 := hI.1 35 1
                  exact ok_some trivial
                · have : ((-1) : Int32).toInt = (-1) := by decide
                  exact ok_some trivial

theorem sX11_count (τ : Nat) (σ : S2) (a1 : Int32) (hI : IvC 0 τ σ)   : Ok (fun z => True) (fX11_count τ σ a1) := by
  unfold fX11_count
  exact sX11_count_0 τ σ a1 hI

