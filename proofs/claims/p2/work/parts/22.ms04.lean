theorem sX12_put_0 {g : Nat} (σ : S2) (x1 : Int32) (x2 : Int32) (x3 : Int64) (hI : IvM g σ)   : Ok (fun z => IvM g z.2 ∧ (-13) ≤ z.1.toInt ∧ z.1.toInt ≤ 1) (fX12_put_0 σ x1 x2 x3) := by
  have hFU : ((FU : Nat) : Int) = 100000 := rfl
  unfold fX12_put_0
  have := i32_rng x1
  have := i32_rng x2
  refine ok_bi (sX12_barred σ x1 x2 hI) (fun r2 hr1 => ?_)
  obtain ⟨p2, p3, p4⟩ := hr1
  have p2 : (-13) ≤ r2.toInt := p2
  have p3 : r2.toInt ≤ 0 := p3
  have p4 : r2.toInt = 0 → 0 ≤ x1.toInt ∧ x1.toInt ≤ 5 ∧ 0 ≤ x2.toInt ∧ x2.toInt ≤ 59 := p4
  have : (0 : Int32).toInt = 0 := by decide
  refine ok_eq (fun h5 => ?_) (fun h5 => ?_)
  · refine ok_ck (by omega) (by omega) ?_
    have : (-1) ≤ (σ.1 31 (Int32.toNatClampNeg x1)).toInt ∧ (σ.1 31 (Int32.toNatClampNeg x1)).toInt ≤ 4 := hI.1 31 (Int32.toNatClampNeg x1)
    refine ok_nmI (fun v4 hv4 he6 => ?_)
    refine ok_eq (fun h7 => ?_) (fun h7 => ?_)
    · have : (60 : Int32).toInt = 60 := by decide
      have : ((60 * x1) : Int32).toInt = 60 * (x1 : Int32).toInt := i32_mulL (by omega) (by omega) (by omega)
      have : (((60 * x1) + x2) : Int32).toInt = ((60 * x1) : Int32).toInt + (x2 : Int32).toInt := i32_add (by omega) (by omega)
      exact sX12_put_92 σ (Int32.toInt64 (Int8.toInt32 (Int32.toInt8 (Int64.toInt32 x3)))) ((60 * x1) + x2) hI (by omega) (by omega)
    · have : (1 : Int32).toInt = 1 := by decide
      refine ok_eq (fun h8 => ?_) (fun h8 => ?_)
      · have : (60 : Int32).toInt = 60 := by decide
        have : ((60 * x1) : Int32).toInt = 60 * (x1 : Int32).toInt := i32_mulL (by omega) (by omega) (by omega)
        have : (((60 * x1) + x2) : Int32).toInt = ((60 * x1) : Int32).toInt + (x2 : Int32).toInt := i32_add (by omega) (by omega)
        exact sX12_put_92 σ (Int32.toInt64 (Int16.toInt32 (Int32.toInt16 (Int64.toInt32 x3)))) ((60 * x1) + x2) hI (by omega) (by omega)
      · have : (2 : Int32).toInt = 2 := by decide
        refine ok_eq (fun h9 => ?_) (fun h9 => ?_)
        · have : (60 : Int32).toInt = 60 := by decide
          have : ((60 * x1) : Int32).toInt = 60 * (x1 : Int32).toInt := i32_mulL (by omega) (by omega) (by omega)
          have : (((60 * x1) + x2) : Int32).toInt = ((60 * x1) : Int32).toInt + (x2 : Int32).toInt := i32_add (by omega) (by omega)
          exact sX12_put_92 σ (Int32.toInt64 (Int64.toInt32 x3)) ((60 * x1) + x2) hI (by omega) (by omega)
        · have : (3 : Int32).toInt = 3 := by decide
          refine ok_eq (fun h10 => ?_) (fun h10 => ?_)
          · have : (60 : Int32).toInt = 60 := by decide
            have : ((60 * x1) : Int32).toInt = 60 * (x1 : Int32).toInt := i32_mulL (by omega) (by omega) (by omega)
            have : (((60 * x1) + x2) : Int32).toInt = ((60 * x1) : Int32).toInt + (x2 : Int32).toInt := i32_add (by omega) (by omega)
            exact sX12_put_92 σ x3 ((60 * x1) + x2) hI (by omega) (by omega)
          · have := i32_rng (lg_cmp x3 0)
            refine ok_eq (fun h11 => ?_) (fun h11 => ?_)
            · have : (60 : Int32).toInt = 60 := by decide
              have : ((60 * x1) : Int32).toInt = 60 * (x1 : Int32).toInt := i32_mulL (by omega) (by omega) (by omega)
              have : (((60 * x1) + x2) : Int32).toInt = ((60 * x1) : Int32).toInt + (x2 : Int32).toInt := i32_add (by omega) (by omega)
              exact sX12_put_92 σ 0 ((60 * x1) + x2) hI (by omega) (by omega)
            · have : (60 : Int32).toInt = 60 := by decide
              have : ((60 * x1) : Int32).toInt = 60 * (x1 : Int32).toInt := i32_mulL (by omega) (by omega) (by omega)
              have : (((60 * x1) + x2) : Int32).toInt = ((60 * x1) : Int32).toInt + (x2 : Int32).toInt := i32_add (by omega) (by omega)
              exact sX12_put_92 σ 1 ((60 * x1) + x2) hI (by omega) (by omega)
  · exact ok_some ⟨hI, by show (-13) ≤ r2.toInt; omega, by show r2.toInt ≤ 1; omega⟩

theorem sX12_put {g : Nat} (σ : S2) (a1 : Int32) (a2 : Int32) (a3 : Int64) (hI : IvM g σ)   : Ok (fun z => IvM g z.2 ∧ (-13) ≤ z.1.toInt ∧ z.1.toInt ≤ 1) (fX12_put σ a1 a2 a3) := by
  unfold fX12_put
  exact sX12_put_0 σ a1 a2 a3 hI

theorem sX12_element_0 {g : Nat} (σ : S2) (x1 : Int32) (x2 : Int32) (hI : IvM g σ)   : Ok (fun z => True) (fX12_element_0 σ x1 x2) := by
  have hFU : ((FU : Nat) : Int) = 100000 := rfl
  unfold fX12_element_0
  have := i32_rng x1
  have := i32_rng x2
  refine ok_bi (sX12_barred σ x1 x2 hI) (fun r1 hr1 => ?_)
  obtain ⟨p2, p3, p4⟩ := hr1
  have p2 : (-13) ≤ r1.toInt := p2
  have p3 : r1.toInt ≤ 0 := p3
  have p4 : r1.toInt = 0 → 0 ≤ x1.toInt ∧ x1.toInt ≤ 5 ∧ 0 ≤ x2.toInt ∧ x2.toInt ≤ 59 := p4
  have : (0 : Int32).toInt = 0 := by decide
  refine ok_eq (fun h5 => ?_) (fun h5 => ?_)
  · have : (60 : Int32).toInt = 60 := by decide
    have : ((60 * x1) : Int32).toInt = 60 * (x1 : Int32).toInt := i32_mulL (by omega) (by omega) (by omega)
    have : (((60 * x1) + x2) : Int32).toInt = ((60 * x1) : Int32).toInt + (x2 : Int32).toInt := i32_add (by omega) (by omega)
    refine ok_ck (by omega) (by omega) ?_
    refine ok_nm (fun v3 _ => ?_)
    exact ok_some trivial
  · exact ok_some trivial

theorem sX12_element {g : Nat} (σ : S2) (a1 : Int32) (a2 : Int32) (hI : IvM g σ)   : Ok (fun z => True) (fX12_element σ a1 a2) := by
  unfold fX12_element
  exact sX12_element_0 σ a1 a2 hI

theorem sX12_shift_193 {g : Nat} (k167 : S2 → Int32 → Int32 → Int32 → Int32 → Option (Int32 × S2)) (σ : S2) (x5 : Int32) (x6 : Int32) (x7 : Int32) (x8 : Int32) (s0 : Int32) (hI : IvM g σ) (p9000 : 1 ≤ x5.toInt) (p9001 : x5.toInt ≤ 60) (p9002 : 0 ≤ x6.toInt) (p9003 : x6.toInt ≤ 360) (p9004 : 0 ≤ x7.toInt) (p9005 : x7.toInt ≤ 360) (p9006 : 0 ≤ x8.toInt) (p9007 : x8.toInt ≤ 59) (p9008 : (-59) ≤ s0.toInt) (p9009 : s0.toInt ≤ 59) (p9010 : 0 ≤ s0.toInt) (p9011 : s0.toInt < x5.toInt) (p9012 : x6.toInt + x5.toInt ≤ 360) (p9013 : x7.toInt + x5.toInt ≤ 360) (hk167 : ∀ (y0 : S2) (y1 : Int32) (y2 : Int32) (y3 : Int32) (y4 : Int32), IvM g y0 → 0 ≤ y1.toInt → y1.toInt ≤ 60 → 0 ≤ y2.toInt → y2.toInt ≤ 360 → 0 ≤ y3.toInt → y3.toInt ≤ 360 → 0 ≤ y4.toInt → y4.toInt ≤ 60 → y2.toInt + y1.toInt ≤ 360 → y3.toInt + y1.toInt ≤ 360 → x8.toInt + 1 ≤ y4.toInt → Ok (fun z => IvM g z.2 ∧ (-13) ≤ z.1.toInt ∧ z.1.toInt ≤ 60) (k167 y0 y1 y2 y3 y4)) : Ok (fun z => IvM g z.2 ∧ (-13) ≤ z.1.toInt ∧ z.1.toInt ≤ 60) (fX12_shift_193 k167 σ x5 x6 x7 x8 s0) := by
  have hFU : ((FU : Nat) : Int) = 100000 := rfl
  unfold fX12_shift_193
  have : ((x6 + s0) : Int32).toInt = (x6 : Int32).toInt + (s0 : Int32).toInt := i32_add (by omega) (by omega)
  refine ok_ck (by omega) (by omega) ?_
  refine ok_nm (fun v1 _ => ?_)
  have : ((x7 + s0) : Int32).toInt = (x7 : Int32).toInt + (s0 : Int32).toInt := i32_add (by omega) (by omega)
  refine ok_ck (by omega) (by omega) ?_
  refine ok_nm (fun σ2 hs1 => ?_)
  have hI2 : IvM g σ2 := by rw [hs1]; exact IvM.wL hI
  have : (1 : Int32).toInt = 1 := by decide
  have : ((x8 + 1) : Int32).toInt = (x8 : Int32).toInt + (1 : Int32).toInt := i32_add (by omega) (by omega)
  refine ok_nmI (fun v3 hv3 he3 => ?_)
  exact hk167 σ2 x5 x6 x7 v3 hI2 (by omega) (by omega) (by omega) (by omega) (by omega) (by omega) (by omega) (by omega) (by omega) (by omega) (by omega)

theorem sX12_shift_167 {g : Nat} : ∀ (n : Nat) (σ : S2) (x5 : Int32) (x6 : Int32) (x7 : Int32) (x8 : Int32), IvM g σ → 0 ≤ x5.toInt → x5.toInt ≤ 60 → 0 ≤ x6.toInt → x6.toInt ≤ 360 → 0 ≤ x7.toInt → x7.toInt ≤ 360 → 0 ≤ x8.toInt → x8.toInt ≤ 60 → x6.toInt + x5.toInt ≤ 360 → x7.toInt + x5.toInt ≤ 360 → 60 - x8.toInt < (n : Int) → Ok (fun z => IvM g z.2 ∧ (-13) ≤ z.1.toInt ∧ z.1.toInt ≤ 60) (fX12_shift_167 n σ x5 x6 x7 x8) := by
  have hFU : ((FU : Nat) : Int) = 100000 := rfl
  intro n
  induction n with
  | zero => intro σ x5 x6 x7 x8 hI p9000 p9001 p9002 p9003 p9004 p9005 p9006 p9007 p9008 p9009 hm; exfalso; omega
  | succ n ih =>
    intro σ x5 x6 x7 x8 hI p9000 p9001 p9002 p9003 p9004 p9005 p9006 p9007 p9008 p9009 hm
    unfold fX12_shift_167
    refine ok_le (fun h1 => ?_) (fun h1 => ?_)
    · exact ok_some ⟨hI, by show (-13) ≤ x5.toInt; omega, by show x5.toInt ≤ 60; omega⟩
    · refine ok_le (fun h2 => ?_) (fun h2 => ?_)
      · exact sX12_shift_193 (fX12_shift_167 n) σ x5 x6 x7 x8 x8 hI (by omega) (by omega) (by omega) (by omega) (by omega) (by omega) (by omega) (by omega) (by omega) (by omega) (by omega) (by omega) (by omega) (by omega) (fun y0 y1 y2 y3 y4 q0 q1 q2 q3 q4 q5 q6 q7 q8 q9 q10 q11 => ih y0 y1 y2 y3 y4 q0 q1 q2 q3 q4 q5 q6 q7 q8 q9 q10 (by omega))
      · have : (1 : Int32).toInt = 1 := by decide
        have : ((x5 - 1) : Int32).toInt = (x5 : Int32).toInt - (1 : Int32).toInt := i32_sub (by omega) (by omega)
        have : (((x5 - 1) - x8) : Int32).toInt = ((x5 - 1) : Int32).toInt - (x8 : Int32).toInt := i32_sub (by omega) (by omega)
        exact sX12_shift_193 (fX12_shift_167 n) σ x5 x6 x7 x8 ((x5 - 1) - x8) hI (by omega) (by omega) (by omega) (by omega) (by omega) (by omega) (by omega) (by omega) (by omega) (by omega) (by omega) (by omega) (by omega) (by omega) (fun y0 y1 y2 y3 y4 q0 q1 q2 q3 q4 q5 q6 q7 q8 q9 q10 q11 => ih y0 y1 y2 y3 y4 q0 q1 q2 q3 q4 q5 q6 q7 q8 q9 q10 (by omega))

theorem sX12_shift_55 {g : Nat} (σ : S2) (x1 : Int32) (x2 : Int32) (x3 : Int32) (x4 : Int32) (x5 : Int32) (hI : IvM g σ) (p9000 : 0 ≤ x1.toInt) (p9001 : x1.toInt ≤ 5) (p9002 : 0 ≤ x3.toInt) (p9003 : x3.toInt ≤ 5)  : Ok (fun z => IvM g z.2 ∧ (-13) ≤ z.1.toInt ∧ z.1.toInt ≤ 60) (fX12_shift_55 σ x1 x2 x3 x4 x5) := by
  have hFU : ((FU : Nat) : Int) = 100000 := rfl
  unfold fX12_shift_55
  refine ok_ck (by omega) (by omega) ?_
  have : (-1) ≤ (σ.1 31 (Int32.toNatClampNeg x1)).toInt ∧ (σ.1 31 (Int32.toNatClampNeg x1)).toInt ≤ 4 := hI.1 31 (Int32.toNatClampNeg x1)
  refine ok_nmI (fun v4 hv4 he1 => ?_)
  have : (0 : Int32).toInt = 0 := by decide
  refine ok_lt (fun h2 => ?_) (fun h2 => ?_)
  · have : ((-12) : Int32).toInt = (-12) := by decide
    exact ok_some ⟨hI, by show (-13) ≤ ((-12) : Int32).toInt; omega, by show ((-12) : Int32).toInt ≤ 60; omega⟩
  · refine ok_ck (by omega) (by omega) ?_
    refine ok_nmI (fun v5 hv5 he3 => ?_)
    refine ok_ck (by omega) (by omega) ?_
    have : (-1) ≤ (σ.1 31 (Int32.toNatClampNeg x3)).toInt ∧ (σ.1 31 (Int32.toNatClampNeg x3)).toInt ≤ 4 := hI.1 31 (Int32.toNatClampNeg x3)
    refine ok_nmI (fun v6 hv6 he4 => ?_)
    refine ok_eq (fun h5 => ?_) (fun h5 => ?_)
    · have := i32_rng x5
      refine ok_lt (fun h6 => ?_) (fun h6 => ?_)
      · have : ((-13) : Int32).toInt = (-13) := by decide
        exact ok_some ⟨hI, by show (-13) ≤ ((-13) : Int32).toInt; omega, by show ((-13) : Int32).toInt ≤ 60; omega⟩
      · have := i32_rng x2
        refine ok_lt (fun h7 => ?_) (fun h7 => ?_)
        · have : ((-13) : Int32).toInt = (-13) := by decide
          exact ok_some ⟨hI, by show (-13) ≤ ((-13) : Int32).toInt; omega, by show ((-13) : Int32).toInt ≤ 60; omega⟩
        · have := i32_rng x4
          refine ok_lt (fun h8 => ?_) (fun h8 => ?_)
          · have : ((-13) : Int32).toInt = (-13) := by decide
            exact ok_some ⟨hI, by show (-13) ≤ ((-13) : Int32).toInt; omega, by show ((-13) : Int32).toInt ≤ 60; omega⟩
          · refine ok_ck (by omega) (by omega) ?_
            have : 0 ≤ (σ.1 32 (Int32.toNatClampNeg x1)).toInt ∧ (σ.1 32 (Int32.toNatClampNeg x1)).toInt ≤ 60 := hI.1 32 (Int32.toNatClampNeg x1)
            refine ok_nmI (fun v7 hv7 he9 => ?_)
            refine ok_lt (fun h10 => ?_) (fun h10 => ?_)
            · have : ((-13) : Int32).toInt = (-13) := by decide
              exact ok_some ⟨hI, by show (-13) ≤ ((-13) : Int32).toInt; omega, by show ((-13) : Int32).toInt ≤ 60; omega⟩
            · refine ok_ck (by omega) (by omega) ?_
              have : 0 ≤ (σ.1 32 (Int32.toNatClampNeg x3)).toInt ∧ (σ.1 32 (Int32.toNatClampNeg x3)).toInt ≤ 60 := hI.1 32 (Int32.toNatClampNeg x3)
              refine ok_nmI (fun v8 hv8 he11 => ?_)
              refine ok_lt (fun h12 => ?_) (fun h12 => ?_)
              · have : ((-13) : Int32).toInt = (-13) := by decide
                exact ok_some ⟨hI, by show (-13) ≤ ((-13) : Int32).toInt; omega, by show ((-13) : Int32).toInt ≤ 60; omega⟩
              · refine ok_ck (by omega) (by omega) ?_
                refine ok_nmI (fun v9 hv9 he13 => ?_)
                have : ((v9 - x2) : Int32).toInt = (v9 : Int32).toInt - (x2 : Int32).toInt := i32_sub (by omega) (by omega)
                refine ok_lt (fun h14 => ?_) (fun h14 => ?_)
                · have : ((-13) : Int32).toInt = (-13) := by decide
                  exact ok_some ⟨hI, by show (-13) ≤ ((-13) : Int32).toInt; omega, by show ((-13) : Int32).toInt ≤ 60; omega⟩
                · refine ok_ck (by omega) (by omega) ?_
                  refine ok_nmI (fun v10 hv10 he15 => ?_)
                  have : ((v10 - x4) : Int32).toInt = (v10 : Int32).toInt - (x4 : Int32).toInt := i32_sub (by omega) (by omega)
                  refine ok_le (fun h16 => ?_) (fun h16 => ?_)
                  · have : (60 : Int32).toInt = 60 := by decide
                    have : ((60 * x1) : Int32).toInt = 60 * (x1 : Int32).toInt := i32_mulL (by omega) (by omega) (by omega)
                    have : (((60 * x1) + x2) : Int32).toInt = ((60 * x1) : Int32).toInt + (x2 : Int32).toInt := i32_add (by omega) (by omega)
                    refine ok_nmI (fun v11 hv11 he17 => ?_)
                    have : ((60 * x3) : Int32).toInt = 60 * (x3 : Int32).toInt := i32_mulL (by omega) (by omega) (by omega)
                    have : (((60 * x3) + x4) : Int32).toInt = ((60 * x3) : Int32).toInt + (x4 : Int32).toInt := i32_add (by omega) (by omega)
                    refine ok_nmI (fun v12 hv12 he18 => ?_)
                    exact sX12_shift_167 FU σ x5 v11 v12 0 hI (by omega) (by omega) (by omega) (by omega) (by omega) (by omega) (by omega) (by omega) (by omega) (by omega) (by omega)
                  · have : ((-13) : Int32).toInt = (-13) := by decide
                    exact ok_some ⟨hI, by show (-13) ≤ ((-13) : Int32).toInt; omega, by show ((-13) : Int32).toInt ≤ 60; omega⟩
    · have : ((-12) : Int32).toInt = (-12) := by decide
      exact ok_some ⟨hI, by show (-13) ≤ ((-12) : Int32).toInt; omega, by show ((-12) : Int32).toInt ≤ 60; omega⟩

theorem sX12_shift_34 {g : Nat} (σ : S2) (x1 : Int32) (x2 : Int32) (x3 : Int32) (x4 : Int32) (x5 : Int32) (hI : IvM g σ) (p9000 : 0 ≤ x1.toInt) (p9001 : x1.toInt ≤ 5) (p9002 : 0 ≤ x3.toInt) (p9003 : x3.toInt ≤ 5)  : Ok (fun z => IvM g z.2 ∧ (-13) ≤ z.1.toInt ∧ z.1.toInt ≤ 60) (fX12_shift_34 σ x1 x2 x3 x4 x5) := by
  have hFU : ((FU : Nat) : Int) = 100000 := rfl
  unfold fX12_shift_34
  refine ok_ck (by omega) (by omega) ?_
  have : (-1) ≤ (σ.1 31 (Int32.toNatClampNeg x3)).toInt ∧ (σ.1 31 (Int32.toNatClampNeg x3)).toInt ≤ 4 := hI.1 31 (Int32.toNatClampNeg x3)
  refine ok_nmI (fun v13 hv13 he1 => ?_)
  have : (0 : Int32).toInt = 0 := by decide
  refine ok_le (fun h2 => ?_) (fun h2 => ?_)
  · have := i32_rng x2
    have := i32_rng x4
    have := i32_rng x5
    exact sX12_shift_55 σ x1 x2 x3 x4 x5 hI (by omega) (by omega) (by omega) (by omega)
  · refine ok_ck (by omega) (by omega) ?_
    have : (-1) ≤ (σ.1 30 (Int32.toNatClampNeg x3)).toInt ∧ (σ.1 30 (Int32.toNatClampNeg x3)).toInt ≤ 11 := hI.1 30 (Int32.toNatClampNeg x3)
    refine ok_nmI (fun v14 hv14 he3 => ?_)
    refine ok_le (fun h4 => ?_) (fun h4 => ?_)
    · have := i32_rng x2
      have := i32_rng x4
      have := i32_rng x5
      exact sX12_shift_55 σ x1 x2 x3 x4 x5 hI (by omega) (by omega) (by omega) (by omega)
    · have : ((-11) : Int32).toInt = (-11) := by decide
      exact ok_some ⟨hI, by show (-13) ≤ ((-11) : Int32).toInt; omega, by show ((-11) : Int32).toInt ≤ 60; omega⟩

theorem sX12_shift_0 {g : Nat} (σ : S2) (x1 : Int32) (x2 : Int32) (x3 : Int32) (x4 : Int32) (x5 : Int32) (hI : IvM g σ)   : Ok (fun z => IvM g z.2 ∧ (-13) ≤ z.1.toInt ∧ z.1.toInt ≤ 60) (fX12_shift_0 σ x1 x2 x3 x4 x5) := by
  have hFU : ((FU : Nat) : Int) = 100000 := rfl
  unfold fX12_shift_0
  have := i32_rng x1
  refine ok_bi (sX12_isShelf σ x1 hI) (fun r15 hr1 => ?_)
  obtain ⟨p2, p3, p4⟩ := hr1
  have p2 : 0 ≤ r15.toInt := p2
  have p3 : r15.toInt ≤ 1 := p3
  have p4 : r15.toInt ≠ 0 → 0 ≤ x1.toInt ∧ x1.toInt ≤ 5 := p4
  have : (0 : Int32).toInt = 0 := by decide
  refine ok_eq (fun h5 => ?_) (fun h5 => ?_)
  · have : ((-1) : Int32).toInt = (-1) := by decide
    exact ok_some ⟨hI, by show (-13) ≤ ((-1) : Int32).toInt; omega, by show ((-1) : Int32).toInt ≤ 60; omega⟩
  · have := i32_rng x3
    refine ok_bi (sX12_isShelf σ x3 hI) (fun r17 hr6 => ?_)
    obtain ⟨p7, p8, p9⟩ := hr6
    have p7 : 0 ≤ r17.toInt := p7
    have p8 : r17.toInt ≤ 1 := p8
    have p9 : r17.toInt ≠ 0 → 0 ≤ x3.toInt ∧ x3.toInt ≤ 5 := p9
    refine ok_eq (fun h10 => ?_) (fun h10 => ?_)
    · have : ((-1) : Int32).toInt = (-1) := by decide
      exact ok_some ⟨hI, by show (-13) ≤ ((-1) : Int32).toInt; omega, by show ((-1) : Int32).toInt ≤ 60; omega⟩
    · refine ok_ck (by omega) (by omega) ?_
      have : (-1) ≤ (σ.1 31 (Int32.toNatClampNeg x1)).toInt ∧ (σ.1 31 (Int32.toNatClampNeg x1)).toInt ≤ 4 := hI.1 31 (Int32.toNatClampNeg x1)
      refine ok_nmI (fun v19 hv19 he11 => ?_)
      refine ok_le (fun h12 => ?_) (fun h12 => ?_)
      · have := i32_rng x2
        have := i32_rng x4
        have := i32_rng x5
        exact sX12_shift_34 σ x1 x2 x3 x4 x5 hI (by omega) (by omega) (by omega) (by omega)
      · refine ok_ck (by omega) (by omega) ?_
        have : (-1) ≤ (σ.1 30 (Int32.toNatClampNeg x1)).toInt ∧ (σ.1 30 (Int32.toNatClampNeg x1)).toInt ≤ 11 := hI.1 30 (Int32.toNatClampNeg x1)
        refine ok_nmI (fun v20 hv20 he13 => ?_)
        refine ok_lt (fun h14 => ?_) (fun h14 => ?_)
        · have : ((-11) : Int32).toInt = (-11) := by decide
          exact ok_some ⟨hI, by show (-13) ≤ ((-11) : Int32).toInt; omega, by show ((-11) : Int32).toInt ≤ 60; omega⟩
        · have := i32_rng x2
          have := i32_rng x4
          have := i32_rng x5
          exact sX12_shift_34 σ x1 x2 x3 x4 x5 hI (by omega) (by omega) (by omega) (by omega)

theorem sX12_shift {g : Nat} (σ : S2) (a1 : Int32) (a2 : Int32) (a3 : Int32) (a4 : Int32) (a5 : Int32) (hI : IvM g σ)   : Ok (fun z => IvM g z.2 ∧ (-13) ≤ z.1.toInt ∧ z.1.toInt ≤ 60) (fX12_shift σ a1 a2 a3 a4 a5) := by
  unfold fX12_shift
  exact sX12_shift_0 σ a1 a2 a3 a4 a5 hI

theorem sX12_taken_84 {g : Nat} (σ : S2) (x3 : Int32) (hI : IvM g σ) (p9000 : 0 ≤ x3.toInt) (p9001 : x3.toInt ≤ 6)  : Ok (fun z => (-12) ≤ z.toInt ∧ z.toInt ≤ 6) (fX12_taken_84 σ x3) := by
  have hFU : ((FU : Nat) : Int) = 100000 := rfl
  unfold fX12_taken_84
  exact ok_some ⟨by show (-12) ≤ x3.toInt; omega, by show x3.toInt ≤ 6; omega⟩

theorem sX12_taken_40 {g : Nat} (σ : S2) (x1 : Int32) (x2 : Int32) (hI : IvM g σ) (p9000 : 0 ≤ x1.toInt) (p9001 : x1.toInt ≤ 5) (p9002 : 0 ≤ x2.toInt) (p9003 : x2.toInt ≤ 6)  : Ok (fun z => (-12) ≤ z.toInt ∧ z.toInt ≤ 6) (fX12_taken_40 σ x1 x2) := by
  have hFU : ((FU : Nat) : Int) = 100000 := rfl
  unfold fX12_taken_40
  refine ok_ck (by omega) (by omega) ?_
  have : (-1) ≤ (σ.1 30 (Int32.toNatClampNeg x1)).toInt ∧ (σ.1 30 (Int32.toNatClampNeg x1)).toInt ≤ 11 := hI.1 30 (Int32.toNatClampNeg x1)
  refine ok_nmI (fun v1 hv1 he1 => ?_)
  have : (0 : Int32).toInt = 0 := by decide
  refine ok_le (fun h2 => ?_) (fun h2 => ?_)
  · refine ok_ck (by omega) (by omega) ?_
    refine ok_nmI (fun v2 hv2 he3 => ?_)
    refine ok_ck (by omega) (by omega) ?_
    have : 0 ≤ (σ.1 5 (Int32.toNatClampNeg v2)).toInt ∧ (σ.1 5 (Int32.toNatClampNeg v2)).toInt ≤ 6 := hI.1 5 (Int32.toNatClampNeg v2)
    refine ok_nmI (fun v3 hv3 he4 => ?_)
    refine ok_eq (fun h5 => ?_) (fun h5 => ?_)
    · exact sX12_taken_84 σ v3 hI (by omega) (by omega)
    · refine ok_eq (fun h6 => ?_) (fun h6 => ?_)
      · exact sX12_taken_84 σ v3 hI (by omega) (by omega)
      · have : (1 : Int32).toInt = 1 := by decide
        refine ok_eq (fun h7 => ?_) (fun h7 => ?_)
        · have : (6 : Int32).toInt = 6 := by decide
          refine ok_eq (fun h8 => ?_) (fun h8 => ?_)
          · exact sX12_taken_84 σ v3 hI (by omega) (by omega)
          · have : ((-12) : Int32).toInt = (-12) := by decide
            exact ok_some ⟨by show (-12) ≤ ((-12) : Int32).toInt; omega, by show ((-12) : Int32).toInt ≤ 6; omega⟩
        · have : ((-12) : Int32).toInt = (-12) := by decide
          exact ok_some ⟨by show (-12) ≤ ((-12) : Int32).toInt; omega, by show ((-12) : Int32).toInt ≤ 6; omega⟩
  · have : ((-12) : Int32).toInt = (-12) := by decide
    exact ok_some ⟨by show (-12) ≤ ((-12) : Int32).toInt; omega, by show ((-12) : Int32).toInt ≤ 6; omega⟩

theorem sX12_taken_0 {g : Nat} (σ : S2) (x1 : Int32) (x2 : Int32) (hI : IvM g σ)   : Ok (fun z => (-12) ≤ z.toInt ∧ z.toInt ≤ 6) (fX12_taken_0 σ x1 x2) := by
  have hFU : ((FU : Nat) : Int) = 100000 := rfl
  unfold fX12_taken_0
  have := i32_rng x1
  refine ok_bi (sX12_isShelf σ x1 hI) (fun r4 hr1 => ?_)
  obtain ⟨p2, p3, p4⟩ := hr1
  have p2 : 0 ≤ r4.toInt := p2
  have p3 : r4.toInt ≤ 1 := p3
  have p4 : r4.toInt ≠ 0 → 0 ≤ x1.toInt ∧ x1.toInt ≤ 5 := p4
  have : (0 : Int32).toInt = 0 := by decide
  refine ok_eq (fun h5 => ?_) (fun h5 => ?_)
  · have : ((-1) : Int32).toInt = (-1) := by decide
    exact ok_some ⟨by show (-12) ≤ ((-1) : Int32).toInt; omega, by show ((-1) : Int32).toInt ≤ 6; omega⟩
  · have := i32_rng x2
    have : (6 : Int32).toInt = 6 := by decide
    refine ok_bi (sX12_in σ x2 0 6 hI (by omega) (by omega) (by omega) (by omega)) (fun r6 hr6 => ?_)
    obtain ⟨p7, p8, p9⟩ := hr6
    have p7 : 0 ≤ r6.toInt := p7
    have p8 : r6.toInt ≤ 1 := p8
    have p9 : r6.toInt ≠ 0 → (0 : Int32).toInt ≤ x2.toInt ∧ x2.toInt ≤ (6 : Int32).toInt := p9
    refine ok_eq (fun h10 => ?_) (fun h10 => ?_)
    · have : ((-1) : Int32).toInt = (-1) := by decide
      exact ok_some ⟨by show (-12) ≤ ((-1) : Int32).toInt; omega, by show ((-1) : Int32).toInt ≤ 6; omega⟩
    · refine ok_ck (by omega) (by omega) ?_
      have : (-1) ≤ (σ.1 31 (Int32.toNatClampNeg x1)).toInt ∧ (σ.1 31 (Int32.toNatClampNeg x1)).toInt ≤ 4 := hI.1 31 (Int32.toNatClampNeg x1)
      refine ok_nmI (fun v8 hv8 he11 => ?_)
      refine ok_le (fun h12 => ?_) (fun h12 => ?_)
      · exact sX12_taken_40 σ x1 x2 hI (by omega) (by omega) (by omega) (by omega)
      · refine ok_ck (by omega) (by omega) ?_
        have : (-1) ≤ (σ.1 30 (Int32.toNatClampNeg x1)).toInt ∧ (σ.1 30 (Int32.toNatClampNeg x1)).toInt ≤ 11 := hI.1 30 (Int32.toNatClampNeg x1)
        refine ok_nmI (fun v9 hv9 he13 => ?_)
        refine ok_le (fun h14 => ?_) (fun h14 => ?_)
        · exact sX12_taken_40 σ x1 x2 hI (by omega) (by omega) (by omega) (by omega)
        · have : ((-11) : Int32).toInt = (-11) := by decide
          exact ok_some ⟨by show (-12) ≤ ((-11) : Int32).toInt; omega, by show ((-11) : Int32).toInt ≤ 6; omega⟩

theorem sX12_taken {g : Nat} (σ : S2) (a1 : Int32) (a2 : Int32) (hI : IvM g σ)   : Ok (fun z => (-12) ≤ z.toInt ∧ z.toInt ≤ 6) (fX12_taken σ a1 a2) := by
  unfold fX12_taken
  exact sX12_taken_0 σ a1 a2 hI

theorem sX12_names_278 {g : Nat} (k82 : S2 → Int32 → Int32 → Int32 → Int32 → Int32 → Int32 → Int32 → Option (Int32 × S2)) (σ : S2) (x1 : Int32) (x3 : Int32) (x4 : Int32) (x6 : Int32) (x7 : Int32) (x8 : Int32) (s0 : Int32) (s1 : Int32) (hI : IvM g σ) (p9000 : 0 ≤ x1.toInt) (p9001 : x1.toInt ≤ 5) (p9002 : 1 ≤ x3.toInt) (p9003 : x3.toInt ≤ 20) (p9004 : 0 ≤ x4.toInt) (p9005 : x4.toInt ≤ 60) (p9006 : 0 ≤ x7.toInt) (p9007 : x7.toInt ≤ 1) (p9008 : 0 ≤ x8.toInt) (p9009 : x8.toInt ≤ 19) (p9010 : 0 ≤ s0.toInt) (p9011 : s0.toInt ≤ 7) (p9012 : 0 ≤ s1.toInt) (p9013 : (s0.toInt = 0 ∨ (0 ≤ s0.toInt ∧ s1.toInt + s0.toInt ≤ 60))) (hk82 : ∀ (y0 : S2) (y1 : Int32) (y2 : Int32) (y3 : Int32) (y4 : Int32) (y5 : Int32) (y6 : Int32) (y7 : Int32), IvM g y0 → 0 ≤ y1.toInt → y1.toInt ≤ 5 → 1 ≤ y2.toInt → y2.toInt ≤ 20 → 0 ≤ y3.toInt → y3.toInt ≤ 60 → 0 ≤ y4.toInt → 0 ≤ y6.toInt → y6.toInt ≤ 1 → 0 ≤ y7.toInt → y7.toInt ≤ 20 → x8.toInt + 1 ≤ y7.toInt → Ok (fun z => IvM g z.2) (k82 y0 y1 y2 y3 y4 y5 y6 y7)) : Ok (fun z => IvM g z.2) (fX12_names_278 k82 σ x1 x3 x4 x6 x7 x8 s0 s1) := by
  have hFU : ((FU : Nat) : Int) = 100000 := rfl
  unfold fX12_names_278
  have := i32_rng s1
  have : ((s1 + s0) : Int32).toInt = (s1 : Int32).toInt + (s0 : Int32).toInt := i32_add (by omega) (by omega)
  refine ok_nmI (fun v1 hv1 he1 => ?_)
  have : (1 : Int32).toInt = 1 := by decide
  have : ((x8 + 1) : Int32).toInt = (x8 : Int32).toInt + (1 : Int32).toInt := i32_add (by omega) (by omega)
  refine ok_nmI (fun v2 hv2 he2 => ?_)
  have := i32_rng v1
  have := i32_rng x6
  exact hk82 σ x1 x3 x4 v1 x6 x7 v2 hI (by omega) (by omega) (by omega) (by omega) (by omega) (by omega) (by omega) (by omega) (by omega) (by omega) (by omega) (by omega)

theorem sX12_names_263 {g : Nat} (k82 : S2 → Int32 → Int32 → Int32 → Int32 → Int32 → Int32 → Int32 → Option (Int32 × S2)) (σ : S2) (x1 : Int32) (x3 : Int32) (x4 : Int32) (x5 : Int32) (x6 : Int32) (x7 : Int32) (x8 : Int32) (x9 : Int32) (hI : IvM g σ) (p9000 : 0 ≤ x1.toInt) (p9001 : x1.toInt ≤ 5) (p9002 : 1 ≤ x3.toInt) (p9003 : x3.toInt ≤ 20) (p9004 : 0 ≤ x4.toInt) (p9005 : x4.toInt ≤ 60) (p9006 : 0 ≤ x5.toInt) (p9007 : 0 ≤ x7.toInt) (p9008 : x7.toInt ≤ 1) (p9009 : 0 ≤ x8.toInt) (p9010 : x8.toInt ≤ 19) (p9011 : (x7.toInt = 0 ∨ (1 ≤ x9.toInt ∧ x9.toInt ≤ 6 ∧ x5.toInt + x9.toInt < x4.toInt))) (hk82 : ∀ (y0 : S2) (y1 : Int32) (y2 : Int32) (y3 : Int32) (y4 : Int32) (y5 : Int32) (y6 : Int32) (y7 : Int32), IvM g y0 → 0 ≤ y1.toInt → y1.toInt ≤ 5 → 1 ≤ y2.toInt → y2.toInt ≤ 20 → 0 ≤ y3.toInt → y3.toInt ≤ 60 → 0 ≤ y4.toInt → 0 ≤ y6.toInt → y6.toInt ≤ 1 → 0 ≤ y7.toInt → y7.toInt ≤ 20 → x8.toInt + 1 ≤ y7.toInt → Ok (fun z => IvM g z.2) (k82 y0 y1 y2 y3 y4 y5 y6 y7)) : Ok (fun z => IvM g z.2) (fX12_names_263 k82 σ x1 x3 x4 x5 x6 x7 x8 x9) := by
  have hFU : ((FU : Nat) : Int) = 100000 := rfl
  unfold fX12_names_263
  have : (0 : Int32).toInt = 0 := by decide
  refine ok_eq (fun h1 => ?_) (fun h1 => ?_)
  · have := i32_rng x6
    have := i32_rng x5
    exact sX12_names_278 k82 σ x1 x3 x4 x6 x7 x8 0 x5 hI (by omega) (by omega) (by omega) (by omega) (by omega) (by omega) (by omega) (by omega) (by omega) (by omega) (by omega) (by omega) (by omega) (by omega) (fun y0 y1 y2 y3 y4 y5 y6 y7 q0 q1 q2 q3 q4 q5 q6 q7 q8 q9 q10 q11 q12 => hk82 y0 y1 y2 y3 y4 y5 y6 y7 q0 q1 q2 q3 q4 q5 q6 q7 q8 q9 q10 q11 (by omega))
  · have := i32_rng x6
    have : (1 : Int32).toInt = 1 := by decide
    have : ((1 + x9) : Int32).toInt = (1 : Int32).toInt + (x9 : Int32).toInt := i32_add (by omega) (by omega)
    have := i32_rng x5
    exact sX12_names_278 k82 σ x1 x3 x4 x6 x7 x8 (1 + x9) x5 hI (by omega) (by omega) (by omega) (by omega) (by omega) (by omega) (by omega) (by omega) (by omega) (by omega) (by omega) (by omega) (by omega) (by omega) (fun y0 y1 y2 y3 y4 y5 y6 y7 q0 q1 q2 q3 q4 q5 q6 q7 q8 q9 q10 q11 q12 => hk82 y0 y1 y2 y3 y4 y5 y6 y7 q0 q1 q2 q3 q4 q5 q6 q7 q8 q9 q10 q11 (by omega))

theorem sX12_names_242 {g : Nat} (k82 : S2 → Int32 → Int32 → Int32 → Int32 → Int32 → Int32 → Int32 → Option (Int32 × S2)) (σ : S2) (x1 : Int32) (x3 : Int32) (x4 : Int32) (x5 : Int32) (x6 : Int32) (x8 : Int32) (x9 : Int32) (x10 : Int32) (s0 : Int32) (hI : IvM g σ) (p9000 : 0 ≤ x1.toInt) (p9001 : x1.toInt ≤ 5) (p9002 : 1 ≤ x3.toInt) (p9003 : x3.toInt ≤ 20) (p9004 : 0 ≤ x4.toInt) (p9005 : x4.toInt ≤ 60) (p9006 : 0 ≤ x5.toInt) (p9007 : 0 ≤ x8.toInt) (p9008 : x8.toInt ≤ 19) (p9009 : 0 ≤ x10.toInt) (p9010 : x10.toInt ≤ 1) (p9011 : 0 ≤ s0.toInt) (p9012 : s0.toInt ≤ 1) (p9013 : (s0.toInt = 0 ∨ (1 ≤ x9.toInt ∧ x9.toInt ≤ 6 ∧ x5.toInt + x9.toInt < x4.toInt))) (p9014 : (s0.toInt = 0 ∨ x10.toInt = 0 ∨ (σ.1 0 0).toInt ≤ 39)) (p9015 : (s0.toInt = 0 ∨ x10.toInt = 0 ∨ (σ.1 0 0).toInt ≤ 39)) (hk82 : ∀ (y0 : S2) (y1 : Int32) (y2 : Int32) (y3 : Int32) (y4 : Int32) (y5 : Int32) (y6 : Int32) (y7 : Int32), IvM g y0 → 0 ≤ y1.toInt → y1.toInt ≤ 5 → 1 ≤ y2.toInt → y2.toInt ≤ 20 → 0 ≤ y3.toInt → y3.toInt ≤ 60 → 0 ≤ y4.toInt → 0 ≤ y6.toInt → y6.toInt ≤ 1 → 0 ≤ y7.toInt → y7.toInt ≤ 20 → x8.toInt + 1 ≤ y7.toInt → Ok (fun z => IvM g z.2) (k82 y0 y1 y2 y3 y4 y5 y6 y7)) : Ok (fun z => IvM g z.2) (fX12_names_242 k82 σ x1 x3 x4 x5 x6 x8 x9 x10 s0) := by
  have hFU : ((FU : Nat) : Int) = 100000 := rfl
  unfold fX12_names_242
  have : (0 : Int32).toInt = 0 := by decide
  refine ok_eq (fun h1 => ?_) (fun h1 => ?_)
  · have := i32_rng x5
    have := i32_rng x6
    have := i32_rng x9
    exact sX12_names_263 k82 σ x1 x3 x4 x5 x6 s0 x8 x9 hI (by omega) (by omega) (by omega) (by omega) (by omega) (by omega) (by omega) (by omega) (by omega) (by omega) (by omega) (by omega) (fun y0 y1 y2 y3 y4 y5 y6 y7 q0 q1 q2 q3 q4 q5 q6 q7 q8 q9 q10 q11 q12 => hk82 y0 y1 y2 y3 y4 y5 y6 y7 q0 q1 q2 q3 q4 q5 q6 q7 q8 q9 q10 q11 (by omega))
  · refine ok_eq (fun h2 => ?_) (fun h2 => ?_)
    · have := i32_rng x5
      have := i32_rng x6
      have := i32_rng x9
      exact sX12_names_263 k82 σ x1 x3 x4 x5 x6 s0 x8 x9 hI (by omega) (by omega) (by omega) (by omega) (by omega) (by omega) (by omega) (by omega) (by omega) (by omega) (by omega) (by omega) (fun y0 y1 y2 y3 y4 y5 y6 y7 q0 q1 q2 q3 q4 q5 q6 q7 q8 q9 q10 q11 q12 => hk82 y0 y1 y2 y3 y4 y5 y6 y7 q0 q1 q2 q3 q4 q5 q6 q7 q8 q9 q10 q11 (by omega))
    · have := i32_rng x9
      have : 0 ≤ (σ.1 0 0).toInt ∧ (σ.1 0 0).toInt ≤ 40 := hI.1 0 0
      refine ok_bs (sX12_comesName σ x9 hI (by omega) (by omega) (by omega) (by omega)) (fun r3 σ4 hr3 => ?_)
      have hr3 : IvM g σ4 := hr3
      have := i32_rng x6
      have : (1 : Int32).toInt = 1 := by decide
      have := i32_rng (x6 + 1)
      refine ok_nmI (fun v6 hv6 he5 => ?_)
      have := i32_rng x5
      have := i32_rng v6
      exact sX12_names_263 k82 σ4 x1 x3 x4 x5 v6 s0 x8 x9 hr3 (by omega) (by omega) (by omega) (by omega) (by omega) (by omega) (by omega) (by omega) (by omega) (by omega) (by omega) (by omega) (fun y0 y1 y2 y3 y4 y5 y6 y7 q0 q1 q2 q3 q4 q5 q6 q7 q8 q9 q10 q11 q12 => hk82 y0 y1 y2 y3 y4 y5 y6 y7 q0 q1 q2 q3 q4 q5 q6 q7 q8 q9 q10 q11 (by omega))

theorem sX12_names_241 {g : Nat} (k82 : S2 → Int32 → Int32 → Int32 → Int32 → Int32 → Int32 → Int32 → Option (Int32 × S2)) (σ : S2) (x1 : Int32) (x3 : Int32) (x4 : Int32) (x5 : Int32) (x6 : Int32) (x8 : Int32) (x9 : Int32) (x10 : Int32) (hI : IvM g σ) (p9000 : 0 ≤ x1.toInt) (p9001 : x1.toInt ≤ 5) (p9002 : 1 ≤ x3.toInt) (p9003 : x3.toInt ≤ 20) (p9004 : 0 ≤ x4.toInt) (p9005 : x4.toInt ≤ 60) (p9006 : 0 ≤ x5.toInt) (p9007 : 0 ≤ x8.toInt) (p9008 : x8.toInt ≤ 19) (p9009 : 0 ≤ x10.toInt) (p9010 : x10.toInt ≤ 1) (hk82 : ∀ (y0 : S2) (y1 : Int32) (y2 : Int32) (y3 : Int32) (y4 : Int32) (y5 : Int32) (y6 : Int32) (y7 : Int32), IvM g y0 → 0 ≤ y1.toInt → y1.toInt ≤ 5 → 1 ≤ y2.toInt → y2.toInt ≤ 20 → 0 ≤ y3.toInt → y3.toInt ≤ 60 → 0 ≤ y4.toInt → 0 ≤ y6.toInt → y6.toInt ≤ 1 → 0 ≤ y7.toInt → y7.toInt ≤ 20 → x8.toInt + 1 ≤ y7.toInt → Ok (fun z => IvM g z.2) (k82 y0 y1 y2 y3 y4 y5 y6 y7)) : Ok (fun z => IvM g z.2) (fX12_names_241 k82 σ x1 x3 x4 x5 x6 x8 x9 x10) := by
  have hFU : ((FU : Nat) : Int) = 100000 := rfl
  unfold fX12_names_241
  have := i32_rng x5
  have := i32_rng x6
  have := i32_rng x9
  have : (0 : Int32).toInt = 0 := by decide
  exact sX12_names_242 k82 σ x1 x3 x4 x5 x6 x8 x9 x10 0 hI (by omega) (by omega) (by omega) (by omega) (by omega) (by omega) (by omega) (by omega) (by omega) (by omega) (by omega) (by omega) (by omega) (by omega) (by omega) (by omega) (fun y0 y1 y2 y3 y4 y5 y6 y7 q0 q1 q2 q3 q4 q5 q6 q7 q8 q9 q10 q11 q12 => hk82 y0 y1 y2 y3 y4 y5 y6 y7 q0 q1 q2 q3 q4 q5 q6 q7 q8 q9 q10 q11 (by omega))

theorem sX12_names_237 {g : Nat} (k82 : S2 → Int32 → Int32 → Int32 → Int32 → Int32 → Int32 → Int32 → Option (Int32 × S2)) (σ : S2) (x1 : Int32) (x3 : Int32) (x4 : Int32) (x5 : Int32) (x6 : Int32) (x8 : Int32) (x9 : Int32) (x10 : Int32) (hI : IvM g σ) (p9000 : 0 ≤ x1.toInt) (p9001 : x1.toInt ≤ 5) (p9002 : 1 ≤ x3.toInt) (p9003 : x3.toInt ≤ 20) (p9004 : 0 ≤ x4.toInt) (p9005 : x4.toInt ≤ 60) (p9006 : 0 ≤ x5.toInt) (p9007 : 0 ≤ x8.toInt) (p9008 : x8.toInt ≤ 19) (p9009 : 0 ≤ x10.toInt) (p9010 : x10.toInt ≤ 1) (p9011 : 1 ≤ x9.toInt) (p9012 : x9.toInt ≤ 6) (p9013 : x5.toInt + x9.toInt < x4.toInt) (p9014 : (x10.toInt = 0 ∨ (σ.1 0 0).toInt ≤ 39)) (hk82 : ∀ (y0 : S2) (y1 : Int32) (y2 : Int32) (y3 : Int32) (y4 : Int32) (y5 : Int32) (y6 : Int32) (y7 : Int32), IvM g y0 → 0 ≤ y1.toInt → y1.toInt ≤ 5 → 1 ≤ y2.toInt → y2.toInt ≤ 20 → 0 ≤ y3.toInt → y3.toInt ≤ 60 → 0 ≤ y4.toInt → 0 ≤ y6.toInt → y6.toInt ≤ 1 → 0 ≤ y7.toInt → y7.toInt ≤ 20 → x8.toInt + 1 ≤ y7.toInt → Ok (fun z => IvM g z.2) (k82 y0 y1 y2 y3 y4 y5 y6 y7)) : Ok (fun z => IvM g z.2) (fX12_names_237 k82 σ x1 x3 x4 x5 x6 x8 x9 x10) := by
  have hFU : ((FU : Nat) : Int) = 100000 := rfl
  unfold fX12_names_237
  have := i32_rng x5
  have := i32_rng x6
  have := i32_rng x9
  have : (1 : Int32).toInt = 1 := by decide
  exact sX12_names_242 k82 σ x1 x3 x4 x5 x6 x8 x9 x10 1 hI (by omega) (by omega) (by omega) (by omega) (by omega) (by omega) (by omega) (by omega) (by omega) (by omega) (by omega) (by omega) (by omega) (by omega) (by omega) (by omega) (fun y0 y1 y2 y3 y4 y5 y6 y7 q0 q1 q2 q3 q4 q5 q6 q7 q8 q9 q10 q11 q12 => hk82 y0 y1 y2 y3 y4 y5 y6 y7 q0 q1 q2 q3 q4 q5 q6 q7 q8 q9 q10 q11 (by omega))

theorem sX12_names_216 {g : Nat} (k82 : S2 → Int32 → Int32 → Int32 → Int32 → Int32 → Int32 → Int32 → Option (Int32 × S2)) (σ : S2) (x1 : Int32) (x3 : Int32) (x4 : Int32) (x5 : Int32) (x6 : Int32) (x7 : Int32) (x8 : Int32) (x9 : Int32) (s0 : Int32) (hI : IvM g σ) (p9000 : 0 ≤ x1.toInt) (p9001 : x1.toInt ≤ 5) (p9002 : 1 ≤ x3.toInt) (p9003 : x3.toInt ≤ 20) (p9004 : 0 ≤ x4.toInt) (p9005 : x4.toInt ≤ 60) (p9006 : 0 ≤ x5.toInt) (p9007 : 0 ≤ x7.toInt) (p9008 : x7.toInt ≤ 1) (p9009 : 0 ≤ x8.toInt) (p9010 : x8.toInt ≤ 19) (p9011 : 0 ≤ s0.toInt) (p9012 : s0.toInt ≤ 1) (p9013 : (x7.toInt = 0 ∨ (1 ≤ x9.toInt ∧ x9.toInt ≤ 6 ∧ x5.toInt + x9.toInt < x4.toInt))) (hk82 : ∀ (y0 : S2) (y1 : Int32) (y2 : Int32) (y3 : Int32) (y4 : Int32) (y5 : Int32) (y6 : Int32) (y7 : Int32), IvM g y0 → 0 ≤ y1.toInt → y1.toInt ≤ 5 → 1 ≤ y2.toInt → y2.toInt ≤ 20 → 0 ≤ y3.toInt → y3.toInt ≤ 60 → 0 ≤ y4.toInt → 0 ≤ y6.toInt → y6.toInt ≤ 1 → 0 ≤ y7.toInt → y7.toInt ≤ 20 → x8.toInt + 1 ≤ y7.toInt → Ok (fun z => IvM g z.2) (k82 y0 y1 y2 y3 y4 y5 y6 y7)) : Ok (fun z => IvM g z.2) (fX12_names_216 k82 σ x1 x3 x4 x5 x6 x7 x8 x9 s0) := by
  have hFU : ((FU : Nat) : Int) = 100000 := rfl
  unfold fX12_names_216
  have : (0 : Int32).toInt = 0 := by decide
  refine ok_eq (fun h1 => ?_) (fun h1 => ?_)
  · have := i32_rng x5
    have := i32_rng x6
    have := i32_rng x9
    exact sX12_names_241 k82 σ x1 x3 x4 x5 x6 x8 x9 s0 hI (by omega) (by omega) (by omega) (by omega) (by omega) (by omega) (by omega) (by omega) (by omega) (by omega) (by omega) (fun y0 y1 y2 y3 y4 y5 y6 y7 q0 q1 q2 q3 q4 q5 q6 q7 q8 q9 q10 q11 q12 => hk82 y0 y1 y2 y3 y4 y5 y6 y7 q0 q1 q2 q3 q4 q5 q6 q7 q8 q9 q10 q11 (by omega))
  · refine ok_eq (fun h2 => ?_) (fun h2 => ?_)
    · have := i32_rng x5
      have := i32_rng x6
      have := i32_rng x9
      exact sX12_names_237 k82 σ x1 x3 x4 x5 x6 x8 x9 s0 hI (by omega) (by omega) (by omega) (by omega) (by omega) (by omega) (by omega) (by omega) (by omega) (by omega) (by omega) (by omega) (by omega) (by omega) (by omega) (fun y0 y1 y2 y3 y4 y5 y6 y7 q0 q1 q2 q3 q4 q5 q6 q7 q8 q9 q10 q11 q12 => hk82 y0 y1 y2 y3 y4 y5 y6 y7 q0 q1 q2 q3 q4 q5 q6 q7 q8 q9 q10 q11 (by omega))
    · have : 0 ≤ (σ.1 0 0).toInt ∧ (σ.1 0 0).toInt ≤ 40 := hI.1 0 0
      have : (40 : Int32).toInt = 40 := by decide
      refine ok_eq (fun h3 => ?_) (fun h3 => ?_)
      · have := i32_rng x5
        have := i32_rng x6
        have := i32_rng x9
        exact sX12_names_241 k82 σ x1 x3 x4 x5 x6 x8 x9 s0 hI (by omega) (by omega) (by omega) (by omega) (by omega) (by omega) (by omega) (by omega) (by omega) (by omega) (by omega) (fun y0 y1 y2 y3 y4 y5 y6 y7 q0 q1 q2 q3 q4 q5 q6 q7 q8 q9 q10 q11 q12 => hk82 y0 y1 y2 y3 y4 y5 y6 y7 q0 q1 q2 q3 q4 q5 q6 q7 q8 q9 q10 q11 (by omega))
      · have := i32_rng x5
        have := i32_rng x6
        have := i32_rng x9
        exact sX12_names_237 k82 σ x1 x3 x4 x5 x6 x8 x9 s0 hI (by omega) (by omega) (by omega) (by omega) (by omega) (by omega) (by omega) (by omega) (by omega) (by omega) (by omega) (by omega) (by omega) (by omega) (by omega) (fun y0 y1 y2 y3 y4 y5 y6 y7 q0 q1 q2 q3 q4 q5 q6 q7 q8 q9 q10 q11 q12 => hk82 y0 y1 y2 y3 y4 y5 y6 y7 q0 q1 q2 q3 q4 q5 q6 q7 q8 q9 q10 q11 (by omega))

theorem sX12_names_215 {g : Nat} (k82 : S2 → Int32 → Int32 → Int32 → Int32 → Int32 → Int32 → Int32 → Option (Int32 × S2)) (σ : S2) (x1 : Int32) (x3 : Int32) (x4 : Int32) (x5 : Int32) (x6 : Int32) (x7 : Int32) (x8 : Int32) (x9 : Int32) (hI : IvM g σ) (p9000 : 0 ≤ x1.toInt) (p9001 : x1.toInt ≤ 5) (p9002 : 1 ≤ x3.toInt) (p9003 : x3.toInt ≤ 20) (p9004 : 0 ≤ x4.toInt) (p9005 : x4.toInt ≤ 60) (p9006 : 0 ≤ x5.toInt) (p9007 : 0 ≤ x7.toInt) (p9008 : x7.toInt ≤ 1) (p9009 : 0 ≤ x8.toInt) (p9010 : x8.toInt ≤ 19) (p9011 : (x7.toInt = 0 ∨ (1 ≤ x9.toInt ∧ x9.toInt ≤ 6 ∧ x5.toInt + x9.toInt < x4.toInt))) (hk82 : ∀ (y0 : S2) (y1 : Int32) (y2 : Int32) (y3 : Int32) (y4 : Int32) (y5 : Int32) (y6 : Int32) (y7 : Int32), IvM g y0 → 0 ≤ y1.toInt → y1.toInt ≤ 5 → 1 ≤ y2.toInt → y2.toInt ≤ 20 → 0 ≤ y3.toInt → y3.toInt ≤ 60 → 0 ≤ y4.toInt → 0 ≤ y6.toInt → y6.toInt ≤ 1 → 0 ≤ y7.toInt → y7.toInt ≤ 20 → x8.toInt + 1 ≤ y7.toInt → Ok (fun z => IvM g z.2) (k82 y0 y1 y2 y3 y4 y5 y6 y7)) : Ok (fun z => IvM g z.2) (fX12_names_215 k82 σ x1 x3 x4 x5 x6 x7 x8 x9) := by
  have hFU : ((FU : Nat) : Int) = 100000 := rfl
  unfold fX12_names_215
  have := i32_rng x5
  have := i32_rng x6
  have := i32_rng x9
  have : (0 : Int32).toInt = 0 := by decide
  exact sX12_names_216 k82 σ x1 x3 x4 x5 x6 x7 x8 x9 0 hI (by omega) (by omega) (by omega) (by omega) (by omega) (by omega) (by omega) (by omega) (by omega) (by omega) (by omega) (by omega) (by omega) (by omega) (fun y0 y1 y2 y3 y4 y5 y6 y7 q0 q1 q2 q3 q4 q5 q6 q7 q8 q9 q10 q11 q12 => hk82 y0 y1 y2 y3 y4 y5 y6 y7 q0 q1 q2 q3 q4 q5 q6 q7 q8 q9 q10 q11 (by omega))

theorem sX12_names_197 {g : Nat} (k82 : S2 → Int32 → Int32 → Int32 → Int32 → Int32 → Int32 → Int32 → Option (Int32 × S2)) (σ : S2) (x1 : Int32) (x3 : Int32) (x4 : Int32) (x5 : Int32) (x6 : Int32) (x7 : Int32) (x8 : Int32) (x9 : Int32) (hI : IvM g σ) (p9000 : 0 ≤ x1.toInt) (p9001 : x1.toInt ≤ 5) (p9002 : 1 ≤ x3.toInt) (p9003 : x3.toInt ≤ 20) (p9004 : 0 ≤ x4.toInt) (p9005 : x4.toInt ≤ 60) (p9006 : 0 ≤ x5.toInt) (p9007 : 0 ≤ x7.toInt) (p9008 : x7.toInt ≤ 1) (p9009 : 0 ≤ x8.toInt) (p9010 : x8.toInt ≤ 19) (p9011 : (x7.toInt = 0 ∨ (1 ≤ x9.toInt ∧ x9.toInt ≤ 6 ∧ x5.toInt + x9.toInt < x4.toInt))) (hk82 : ∀ (y0 : S2) (y1 : Int32) (y2 : Int32) (y3 : Int32) (y4 : Int32) (y5 : Int32) (y6 : Int32) (y7 : Int32), IvM g y0 → 0 ≤ y1.toInt → y1.toInt ≤ 5 → 1 ≤ y2.toInt → y2.toInt ≤ 20 → 0 ≤ y3.toInt → y3.toInt ≤ 60 → 0 ≤ y4.toInt → 0 ≤ y6.toInt → y6.toInt ≤ 1 → 0 ≤ y7.toInt → y7.toInt ≤ 20 → x8.toInt + 1 ≤ y7.toInt → Ok (fun z => IvM g z.2) (k82 y0 y1 y2 y3 y4 y5 y6 y7)) : Ok (fun z => IvM g z.2) (fX12_names_197 k82 σ x1 x3 x4 x5 x6 x7 x8 x9) := by
  have hFU : ((FU : Nat) : Int) = 100000 := rfl
  unfold fX12_names_197
  have : (0 : Int32).toInt = 0 := by decide
  refine ok_eq (fun h1 => ?_) (fun h1 => ?_)
  · have := i32_rng x5
    have := i32_rng x6
    have := i32_rng x9
    exact sX12_names_215 k82 σ x1 x3 x4 x5 x6 x7 x8 x9 hI (by omega) (by omega) (by omega) (by omega) (by omega) (by omega) (by omega) (by omega) (by omega) (by omega) (by omega) (by omega) (fun y0 y1 y2 y3 y4 y5 y6 y7 q0 q1 q2 q3 q4 q5 q6 q7 q8 q9 q10 q11 q12 => hk82 y0 y1 y2 y3 y4 y5 y6 y7 q0 q1 q2 q3 q4 q5 q6 q7 q8 q9 q10 q11 (by omega))
  · have := i32_rng x9
    refine ok_bi (sX12_found σ x9 hI (by omega) (by omega)) (fun r7 hr2 => ?_)
    obtain ⟨p3, p4⟩ := hr2
    have p3 : (-1) ≤ r7.toInt := p3
    have p4 : r7.toInt ≤ 39 := p4
    refine ok_le (fun h5 => ?_) (fun h5 => ?_)
    · have := i32_rng x5
      have := i32_rng x6
      exact sX12_names_215 k82 σ x1 x3 x4 x5 x6 x7 x8 x9 hI (by omega) (by omega) (by omega) (by omega) (by omega) (by omega) (by omega) (by omega) (by omega) (by omega) (by omega) (by omega) (fun y0 y1 y2 y3 y4 y5 y6 y7 q0 q1 q2 q3 q4 q5 q6 q7 q8 q9 q10 q11 q12 => hk82 y0 y1 y2 y3 y4 y5 y6 y7 q0 q1 q2 q3 q4 q5 q6 q7 q8 q9 q10 q11 (by omega))
    · have := i32_rng x5
      have := i32_rng x6
      have : (1 : Int32).toInt = 1 := by decide
      exact sX12_names_216 k82 σ x1 x3 x4 x5 x6 x7 x8 x9 1 hI (by omega) (by omega) (by omega) (by omega) (by omega) (by omega) (by omega) (by omega) (by omega) (by omega) (by omega) (by omega) (by omega) (by omega) (fun y0 y1 y2 y3 y4 y5 y6 y7 q0 q1 q2 q3 q4 q5 q6 q7 q8 q9 q10 q11 q12 => hk82 y0 y1 y2 y3 y4 y5 y6 y7 q0 q1 q2 q3 q4 q5 q6 q7 q8 q9 q10 q11 (by omega))

theorem sX12_names_150 {g : Nat} (k82 : S2 → Int32 → Int32 → Int32 → Int32 → Int32 → Int32 → Int32 → Option (Int32 × S2)) : ∀ (n : Nat) (σ : S2) (x1 : Int32) (x3 : Int32) (x4 : Int32) (x5 : Int32) (x6 : Int32) (x7 : Int32) (x8 : Int32) (x9 : Int32) (x10 : Int32), IvM g σ → 0 ≤ x1.toInt → x1.toInt ≤ 5 → 1 ≤ x3.toInt → x3.toInt ≤ 20 → 0 ≤ x4.toInt → x4.toInt ≤ 60 → 0 ≤ x5.toInt → 0 ≤ x7.toInt → x7.toInt ≤ 1 → 0 ≤ x8.toInt → x8.toInt ≤ 19 → 0 ≤ x10.toInt → x10.toInt ≤ 6 → (x7.toInt = 0 ∨ (1 ≤ x9.toInt ∧ x9.toInt ≤ 6 ∧ x5.toInt + x9.toInt < x4.toInt)) → 6 - x10.toInt < (n : Int) → (∀ (y0 : S2) (y1 : Int32) (y2 : Int32) (y3 : Int32) (y4 : Int32) (y5 : Int32) (y6 : Int32) (y7 : Int32), IvM g y0 → 0 ≤ y1.toInt → y1.toInt ≤ 5 → 1 ≤ y2.toInt → y2.toInt ≤ 20 → 0 ≤ y3.toInt → y3.toInt ≤ 60 → 0 ≤ y4.toInt → 0 ≤ y6.toInt → y6.toInt ≤ 1 → 0 ≤ y7.toInt → y7.toInt ≤ 20 → x8.toInt + 1 ≤ y7.toInt → Ok (fun z => IvM g z.2) (k82 y0 y1 y2 y3 y4 y5 y6 y7)) → Ok (fun z => IvM g z.2) (fX12_names_150 k82 n σ x1 x3 x4 x5 x6 x7 x8 x9 x10) := by
  have hFU : ((FU : Nat) : Int) = 100000 := rfl
  intro n
  induction n with
  | zero => intro σ x1 x3 x4 x5 x6 x7 x8 x9 x10 hI p9000 p9001 p9002 p9003 p9004 p9005 p9006 p9007 p9008 p9009 p9010 p9011 p9012 p9013 hm hk82; exfalso; omega
  | succ n ih =>
    intro σ x1 x3 x4 x5 x6 x7 x8 x9 x10 hI p9000 p9001 p9002 p9003 p9004 p9005 p9006 p9007 p9008 p9009 p9010 p9011 p9012 p9013 hm hk82
    unfold fX12_names_150
    have := i32_rng x9
    refine ok_le (fun h1 => ?_) (fun h1 => ?_)
    · have := i32_rng x5
      have := i32_rng x6
      exact sX12_names_197 k82 σ x1 x3 x4 x5 x6 x7 x8 x9 hI (by omega) (by omega) (by omega) (by omega) (by omega) (by omega) (by omega) (by omega) (by omega) (by omega) (by omega) (by omega) (fun y0 y1 y2 y3 y4 y5 y6 y7 q0 q1 q2 q3 q4 q5 q6 q7 q8 q9 q10 q11 q12 => hk82 y0 y1 y2 y3 y4 y5 y6 y7 q0 q1 q2 q3 q4 q5 q6 q7 q8 q9 q10 q11 (by omega))
    · have : (0 : Int32).toInt = 0 := by decide
      refine ok_eq (fun h2 => ?_) (fun h2 => ?_)
      · have := i32_rng x5
        have := i32_rng x6
        exact sX12_names_197 k82 σ x1 x3 x4 x5 x6 x7 x8 x9 hI (by omega) (by omega) (by omega) (by omega) (by omega) (by omega) (by omega) (by omega) (by omega) (by omega) (by omega) (by omega) (fun y0 y1 y2 y3 y4 y5 y6 y7 q0 q1 q2 q3 q4 q5 q6 q7 q8 q9 q10 q11 q12 => hk82 y0 y1 y2 y3 y4 y5 y6 y7 q0 q1 q2 q3 q4 q5 q6 q7 q8 q9 q10 q11 (by omega))
      · have : (60 : Int32).toInt = 60 := by decide
        have : ((60 * x1) : Int32).toInt = 60 * (x1 : Int32).toInt := i32_mulL (by omega) (by omega) (by omega)
        have : (((60 * x1) + x5) : Int32).toInt = ((60 * x1) : Int32).toInt + (x5 : Int32).toInt := i32_add (by omega) (by omega)
        have : (1 : Int32).toInt = 1 := by decide
        have : ((((60 * x1) + x5) + 1) : Int32).toInt = (((60 * x1) + x5) : Int32).toInt + (1 : Int32).toInt := i32_add (by omega) (by omega)
        have : (((((60 * x1) + x5) + 1) + x10) : Int32).toInt = ((((60 * x1) + x5) + 1) : Int32).toInt + (x10 : Int32).toInt := i32_add (by omega) (by omega)
        refine ok_ck (by omega) (by omega) ?_
        refine ok_nm (fun v9 _ => ?_)
        refine ok_ck (by omega) (by omega) ?_
        have := i32_rng (Int64.toInt32 v9)
        have : (255 : Int32).toInt = 255 := by decide
        have := i32_andR (a := (Int64.toInt32 v9)) (m := 255) (by omega)
        refine ok_nm (fun σ10 hs3 => ?_)
        have hI4 : IvM g σ10 := by rw [hs3]; exact IvM.wI hI rfl (show 0 ≤ (((Int64.toInt32 v9) &&& 255) : Int32).toInt by omega) (show (((Int64.toInt32 v9) &&& 255) : Int32).toInt ≤ 255 by omega)
        have : ((x10 + 1) : Int32).toInt = (x10 : Int32).toInt + (1 : Int32).toInt := i32_add (by omega) (by omega)
        refine ok_nmI (fun v11 hv11 he5 => ?_)
        have := i32_rng x6
        exact ih σ10 x1 x3 x4 x5 x6 x7 x8 x9 v11 hI4 (by omega) (by omega) (by omega) (by omega) (by omega) (by omega) (by omega) (by omega) (by omega) (by omega) (by omega) (by omega) (by omega) (by omega) (by omega) (fun y0 y1 y2 y3 y4 y5 y6 y7 q0 q1 q2 q3 q4 q5 q6 q7 q8 q9 q10 q11 q12 => hk82 y0 y1 y2 y3 y4 y5 y6 y7 q0 q1 q2 q3 q4 q5 q6 q7 q8 q9 q10 q11 (by omega))

theorem sX12_names_145 {g : Nat} (k82 : S2 → Int32 → Int32 → Int32 → Int32 → Int32 → Int32 → Int32 → Option (Int32 × S2)) (σ : S2) (x1 : Int32) (x3 : Int32) (x4 : Int32) (x5 : Int32) (x6 : Int32) (x8 : Int32) (x9 : Int32) (s0 : Int32) (hI : IvM g σ) (p9000 : 0 ≤ x1.toInt) (p9001 : x1.toInt ≤ 5) (p9002 : 1 ≤ x3.toInt) (p9003 : x3.toInt ≤ 20) (p9004 : 0 ≤ x4.toInt) (p9005 : x4.toInt ≤ 60) (p9006 : 0 ≤ x5.toInt) (p9007 : 0 ≤ x8.toInt) (p9008 : x8.toInt ≤ 19) (p9009 : 0 ≤ s0.toInt) (p9010 : s0.toInt ≤ 1) (p9011 : (s0.toInt = 0 ∨ (1 ≤ x9.toInt ∧ x9.toInt ≤ 6 ∧ x5.toInt + x9.toInt < x4.toInt))) (hk82 : ∀ (y0 : S2) (y1 : Int32) (y2 : Int32) (y3 : Int32) (y4 : Int32) (y5 : Int32) (y6 : Int32) (y7 : Int32), IvM g y0 → 0 ≤ y1.toInt → y1.toInt ≤ 5 → 1 ≤ y2.toInt → y2.toInt ≤ 20 → 0 ≤ y3.toInt → y3.toInt ≤ 60 → 0 ≤ y4.toInt → 0 ≤ y6.toInt → y6.toInt ≤ 1 → 0 ≤ y7.toInt → y7.toInt ≤ 20 → x8.toInt + 1 ≤ y7.toInt → Ok (fun z => IvM g z.2) (k82 y0 y1 y2 y3 y4 y5 y6 y7)) : Ok (fun z => IvM g z.2) (fX12_names_145 k82 σ x1 x3 x4 x5 x6 x8 x9 s0) := by
  have hFU : ((FU : Nat) : Int) = 100000 := rfl
  unfold fX12_names_145
  have := i32_rng x5
  have := i32_rng x6
  have := i32_rng x9
  have : (0 : Int32).toInt = 0 := by decide
  exact sX12_names_150 k82 FU σ x1 x3 x4 x5 x6 s0 x8 x9 0 hI (by omega) (by omega) (by omega) (by omega) (by omega) (by omega) (by omega) (by omega) (by omega) (by omega) (by omega) (by omega) (by omega) (by omega) (by omega) (fun y0 y1 y2 y3 y4 y5 y6 y7 q0 q1 q2 q3 q4 q5 q6 q7 q8 q9 q10 q11 q12 => hk82 y0 y1 y2 y3 y4 y5 y6 y7 q0 q1 q2 q3 q4 q5 q6 q7 q8 q9 q10 q11 (by omega))

theorem sX12_names_144 {g : Nat} (k82 : S2 → Int32 → Int32 → Int32 → Int32 → Int32 → Int32 → Int32 → Option (Int32 × S2)) (σ : S2) (x1 : Int32) (x3 : Int32) (x4 : Int32) (x5 : Int32) (x6 : Int32) (x8 : Int32) (x9 : Int32) (hI : IvM g σ) (p9000 : 0 ≤ x1.toInt) (p9001 : x1.toInt ≤ 5) (p9002 : 1 ≤ x3.toInt) (p9003 : x3.toInt ≤ 20) (p9004 : 0 ≤ x4.toInt) (p9005 : x4.toInt ≤ 60) (p9006 : 0 ≤ x5.toInt) (p9007 : 0 ≤ x8.toInt) (p9008 : x8.toInt ≤ 19) (hk82 : ∀ (y0 : S2) (y1 : Int32) (y2 : Int32) (y3 : Int32) (y4 : Int32) (y5 : Int32) (y6 : Int32) (y7 : Int32), IvM g y0 → 0 ≤ y1.toInt → y1.toInt ≤ 5 → 1 ≤ y2.toInt → y2.toInt ≤ 20 → 0 ≤ y3.toInt → y3.toInt ≤ 60 → 0 ≤ y4.toInt → 0 ≤ y6.toInt → y6.toInt ≤ 1 → 0 ≤ y7.toInt → y7.toInt ≤ 20 → x8.toInt + 1 ≤ y7.toInt → Ok (fun z => IvM g z.2) (k82 y0 y1 y2 y3 y4 y5 y6 y7)) : Ok (fun z => IvM g z.2) (fX12_names_144 k82 σ x1 x3 x4 x5 x6 x8 x9) := by
  have hFU : ((FU : Nat) : Int) = 100000 := rfl
  unfold fX12_names_144
  have := i32_rng x5
  have := i32_rng x6
  have := i32_rng x9
  have : (0 : Int32).toInt = 0 := by decide
  exact sX12_names_145 k82 σ x1 x3 x4 x5 x6 x8 x9 0 hI (by omega) (by omega) (by omega) (by omega) (by omega) (by omega) (by omega) (by omega) (by omega) (by omega) (by omega) (by omega) (fun y0 y1 y2 y3 y4 y5 y6 y7 q0 q1 q2 q3 q4 q5 q6 q7 q8 q9 q10 q11 q12 => hk82 y0 y1 y2 y3 y4 y5 y6 y7 q0 q1 q2 q3 q4 q5 q6 q7 q8 q9 q10 q11 (by omega))

theorem sX12_names_117 {g : Nat} (k82 : S2 → Int32 → Int32 → Int32 → Int32 → Int32 → Int32 → Int32 → Option (Int32 × S2)) (σ : S2) (x1 : Int32) (x3 : Int32) (x4 : Int32) (x5 : Int32) (x6 : Int32) (x8 : Int32) (s0 : Int32) (hI : IvM g σ) (p9000 : 0 ≤ x1.toInt) (p9001 : x1.toInt ≤ 5) (p9002 : 1 ≤ x3.toInt) (p9003 : x3.toInt ≤ 20) (p9004 : 0 ≤ x4.toInt) (p9005 : x4.toInt ≤ 60) (p9006 : 0 ≤ x5.toInt) (p9007 : 0 ≤ x8.toInt) (p9008 : x8.toInt ≤ 19) (p9009 : (s0.toInt = 0 ∨ x5.toInt < x4.toInt)) (hk82 : ∀ (y0 : S2) (y1 : Int32) (y2 : Int32) (y3 : Int32) (y4 : Int32) (y5 : Int32) (y6 : Int32) (y7 : Int32), IvM g y0 → 0 ≤ y1.toInt → y1.toInt ≤ 5 → 1 ≤ y2.toInt → y2.toInt ≤ 20 → 0 ≤ y3.toInt → y3.toInt ≤ 60 → 0 ≤ y4.toInt → 0 ≤ y6.toInt → y6.toInt ≤ 1 → 0 ≤ y7.toInt → y7.toInt ≤ 20 → x8.toInt + 1 ≤ y7.toInt → Ok (fun z => IvM g z.2) (k82 y0 y1 y2 y3 y4 y5 y6 y7)) : Ok (fun z => IvM g z.2) (fX12_names_117 k82 σ x1 x3 x4 x5 x6 x8 s0) := by
  have hFU : ((FU : Nat) : Int) = 100000 := rfl
  unfold fX12_names_117
  have := i32_rng s0
  have : (1 : Int32).toInt = 1 := by decide
  have : (6 : Int32).toInt = 6 := by decide
  refine ok_bi (sX12_in σ s0 1 6 hI (by omega) (by omega) (by omega) (by omega)) (fun r12 hr1 => ?_)
  obtain ⟨p2, p3, p4⟩ := hr1
  have p2 : 0 ≤ r12.toInt := p2
  have p3 : r12.toInt ≤ 1 := p3
  have p4 : r12.toInt ≠ 0 → (1 : Int32).toInt ≤ s0.toInt ∧ s0.toInt ≤ (6 : Int32).toInt := p4
  have : (0 : Int32).toInt = 0 := by decide
  refine ok_eq (fun h5 => ?_) (fun h5 => ?_)
  · have := i32_rng x5
    have := i32_rng x6
    exact sX12_names_144 k82 σ x1 x3 x4 x5 x6 x8 s0 hI (by omega) (by omega) (by omega) (by omega) (by omega) (by omega) (by omega) (by omega) (by omega) (fun y0 y1 y2 y3 y4 y5 y6 y7 q0 q1 q2 q3 q4 q5 q6 q7 q8 q9 q10 q11 q12 => hk82 y0 y1 y2 y3 y4 y5 y6 y7 q0 q1 q2 q3 q4 q5 q6 q7 q8 q9 q10 q11 (by omega))
  · have := i32_rng x5
    have : ((x5 + s0) : Int32).toInt = (x5 : Int32).toInt + (s0 : Int32).toInt := i32_add (by omega) (by omega)
    refine ok_le (fun h6 => ?_) (fun h6 => ?_)
    · have := i32_rng x6
      exact sX12_names_144 k82 σ x1 x3 x4 x5 x6 x8 s0 hI (by omega) (by omega) (by omega) (by omega) (by omega) (by omega) (by omega) (by omega) (by omega) (fun y0 y1 y2 y3 y4 y5 y6 y7 q0 q1 q2 q3 q4 q5 q6 q7 q8 q9 q10 q11 q12 => hk82 y0 y1 y2 y3 y4 y5 y6 y7 q0 q1 q2 q3 q4 q5 q6 q7 q8 q9 q10 q11 (by omega))
    · have := i32_rng x6
      exact sX12_names_145 k82 σ x1 x3 x4 x5 x6 x8 s0 1 hI (by omega) (by omega) (by omega) (by omega) (by omega) (by omega) (by omega) (by omega) (by omega) (by omega) (by omega) (by omega) (fun y0 y1 y2 y3 y4 y5 y6 y7 q0 q1 q2 q3 q4 q5 q6 q7 q8 q9 q10 q11 q12 => hk82 y0 y1 y2 y3 y4 y5 y6 y7 q0 q1 q2 q3 q4 q5 q6 q7 q8 q9 q10 q11 (by omega))

theorem sX12_names_82 {g : Nat} : ∀ (n : Nat) (σ : S2) (x1 : Int32) (x3 : Int32) (x4 : Int32) (x5 : Int32) (x6 : Int32) (x7 : Int32) (x8 : Int32), IvM g σ → 0 ≤ x1.toInt → x1.toInt ≤ 5 → 1 ≤ x3.toInt → x3.toInt ≤ 20 → 0 ≤ x4.toInt → x4.toInt ≤ 60 → 0 ≤ x5.toInt → 0 ≤ x7.toInt → x7.toInt ≤ 1 → 0 ≤ x8.toInt → x8.toInt ≤ 20 → 20 - x8.toInt < (n : Int) → Ok (fun z => IvM g z.2) (fX12_names_82 n σ x1 x3 x4 x5 x6 x7 x8) := by
  have hFU : ((FU : Nat) : Int) = 100000 := rfl
  intro n
  induction n with
  | zero => intro σ x1 x3 x4 x5 x6 x7 x8 hI p9000 p9001 p9002 p9003 p9004 p9005 p9006 p9007 p9008 p9009 p9010 hm; exfalso; omega
  | succ n ih =>
    intro σ x1 x3 x4 x5 x6 x7 x8 hI p9000 p9001 p9002 p9003 p9004 p9005 p9006 p9007 p9008 p9009 p9010 hm
    unfold fX12_names_82
    refine ok_le (fun h1 => ?_) (fun h1 => ?_)
    · have := i32_rng x6
      exact ok_some hI
    · have : (0 : Int32).toInt = 0 := by decide
      refine ok_eq (fun h2 => ?_) (fun h2 => ?_)
      · have := i32_rng x6
        exact ok_some hI
      · have := i32_rng x5
        refine ok_le (fun h3 => ?_) (fun h3 => ?_)
        · have := i32_rng x6
          exact sX12_names_117 (fX12_names_82 n) σ x1 x3 x4 x5 x6 x8 0 hI (by omega) (by omega) (by omega) (by omega) (by omega) (by omega) (by omega) (by omega) (by omega) (by omega) (fun y0 y1 y2 y3 y4 y5 y6 y7 q0 q1 q2 q3 q4 q5 q6 q7 q8 q9 q10 q11 q12 => ih y0 y1 y2 y3 y4 y5 y6 y7 q0 q1 q2 q3 q4 q5 q6 q7 q8 q9 q10 q11 (by omega))
        · have : (60 : Int32).toInt = 60 := by decide
          have : ((60 * x1) : Int32).toInt = 60 * (x1 : Int32).toInt := i32_mulL (by omega) (by omega) (by omega)
          have : (((60 * x1) + x5) : Int32).toInt = ((60 * x1) : Int32).toInt + (x5 : Int32).toInt := i32_add (by omega) (by omega)
          refine ok_ck (by omega) (by omega) ?_
          refine ok_nm (fun v14 _ => ?_)
          have := i32_rng x6
          have := i32_rng (Int64.toInt32 v14)
          exact sX12_names_117 (fX12_names_82 n) σ x1 x3 x4 x5 x6 x8 (Int64.toInt32 v14) hI (by omega) (by omega) (by omega) (by omega) (by omega) (by omega) (by omega) (by omega) (by omega) (by omega) (fun y0 y1 y2 y3 y4 y5 y6 y7 q0 q1 q2 q3 q4 q5 q6 q7 q8 q9 q10 q11 q12 => ih y0 y1 y2 y3 y4 y5 y6 y7 q0 q1 q2 q3 q4 q5 q6 q7 q8 q9 q10 q11 (by omega))

theorem sX12_names_71 {g : Nat} (σ : S2) (x1 : Int32) (x3 : Int32) (x4 : Int32) (s0 : Int32) (hI : IvM g σ) (p9000 : 0 ≤ x1.toInt) (p9001 : x1.toInt ≤ 5) (p9002 : 1 ≤ x3.toInt) (p9003 : x3.toInt ≤ 20) (p9004 : 0 ≤ x4.toInt) (p9005 : x4.toInt ≤ 60) (p9006 : 0 ≤ s0.toInt)  : Ok (fun z => IvM g z.2) (fX12_names_71 σ x1 x3 x4 s0) := by
  have hFU : ((FU : Nat) : Int) = 100000 := rfl
  unfold fX12_names_71
  have := i32_rng s0
  have : (0 : Int32).toInt = 0 := by decide
  have : (1 : Int32).toInt = 1 := by decide
  exact sX12_names_82 FU σ x1 x3 x4 s0 0 1 0 hI (by omega) (by omega) (by omega) (by omega) (by omega) (by omega) (by omega) (by omega) (by omega) (by omega) (by omega) (by omega)

theorem sX12_names_59 {g : Nat} (σ : S2) (x1 : Int32) (x2 : Int32) (x3 : Int32) (s0 : Int32) (hI : IvM g σ) (p9000 : 0 ≤ x1.toInt) (p9001 : x1.toInt ≤ 5) (p9002 : 1 ≤ x3.toInt) (p9003 : x3.toInt ≤ 20) (p9004 : 0 ≤ s0.toInt) (p9005 : s0.toInt ≤ 60)  : Ok (fun z => IvM g z.2) (fX12_names_59 σ x1 x2 x3 s0) := by
  have hFU : ((FU : Nat) : Int) = 100000 := rfl
  unfold fX12_names_59
  have : (0 : Int32).toInt = 0 := by decide
  have := i32_rng x2
  refine ok_le (fun h1 => ?_) (fun h1 => ?_)
  · exact sX12_names_71 σ x1 x3 s0 x2 hI (by omega) (by omega) (by omega) (by omega) (by omega) (by omega) (by omega)
  · exact sX12_names_71 σ x1 x3 s0 s0 hI (by omega) (by omega) (by omega) (by omega) (by omega) (by omega) (by omega)

theorem sX12_names_0 {g : Nat} (σ : S2) (x1 : Int32) (x2 : Int32) (x3 : Int32) (hI : IvM g σ)   : Ok (fun z => IvM g z.2) (fX12_names_0 σ x1 x2 x3) := by
  have hFU : ((FU : Nat) : Int) = 100000 := rfl
  unfold fX12_names_0
  have := i32_rng x1
  refine ok_bi (sX12_isShelf σ x1 hI) (fun r15 hr1 => ?_)
  obtain ⟨p2, p3, p4⟩ := hr1
  have p2 : 0 ≤ r15.toInt := p2
  have p3 : r15.toInt ≤ 1 := p3
  have p4 : r15.toInt ≠ 0 → 0 ≤ x1.toInt ∧ x1.toInt ≤ 5 := p4
  have : (0 : Int32).toInt = 0 := by decide
  refine ok_eq (fun h5 => ?_) (fun h5 => ?_)
  · have : ((-1) : Int32).toInt = (-1) := by decide
    exact ok_some hI
  · have := i32_rng x3
    have : (1 : Int32).toInt = 1 := by decide
    have : (20 : Int32).toInt = 20 := by decide
    refine ok_bi (sX12_in σ x3 1 20 hI (by omega) (by omega) (by omega) (by omega)) (fun r17 hr6 => ?_)
    obtain ⟨p7, p8, p9⟩ := hr6
    have p7 : 0 ≤ r17.toInt := p7
    have p8 : r17.toInt ≤ 1 := p8
    have p9 : r17.toInt ≠ 0 → (1 : Int32).toInt ≤ x3.toInt ∧ x3.toInt ≤ (20 : Int32).toInt := p9
    refine ok_eq (fun h10 => ?_) (fun h10 => ?_)
    · have : ((-1) : Int32).toInt = (-1) := by decide
      exact ok_some hI
    · refine ok_ck (by omega) (by omega) ?_
      have : (-1) ≤ (σ.1 30 (Int32.toNatClampNeg x1)).toInt ∧ (σ.1 30 (Int32.toNatClampNeg x1)).toInt ≤ 11 := hI.1 30 (Int32.toNatClampNeg x1)
      refine ok_nmI (fun v19 hv19 he11 => ?_)
      refine ok_le (fun h12 => ?_) (fun h12 => ?_)
      · have : ((-12) : Int32).toInt = (-12) := by decide
        exact ok_some hI
      · refine ok_ck (by omega) (by omega) ?_
        have : (-1) ≤ (σ.1 31 (Int32.toNatClampNeg x1)).toInt ∧ (σ.1 31 (Int32.toNatClampNeg x1)).toInt ≤ 4 := hI.1 31 (Int32.toNatClampNeg x1)
        refine ok_nmI (fun v20 hv20 he13 => ?_)
        refine ok_le (fun h14 => ?_) (fun h14 => ?_)
        · refine ok_ck (by omega) (by omega) ?_
          refine ok_nmI (fun v21 hv21 he15 => ?_)
          refine ok_eq (fun h16 => ?_) (fun h16 => ?_)
          · refine ok_ck (by omega) (by omega) ?_
            have : 0 ≤ (σ.1 32 (Int32.toNatClampNeg x1)).toInt ∧ (σ.1 32 (Int32.toNatClampNeg x1)).toInt ≤ 60 := hI.1 32 (Int32.toNatClampNeg x1)
            refine ok_nmI (fun v22 hv22 he17 => ?_)
            have := i32_rng x2
            exact sX12_names_59 σ x1 x2 x3 v22 hI (by omega) (by omega) (by omega) (by omega) (by omega) (by omega)
          · have := i32_rng x2
            exact sX12_names_59 σ x1 x2 x3 0 hI (by omega) (by omega) (by omega) (by omega) (by omega) (by omega)
        · have : ((-12) : Int32).toInt = (-12) := by decide
          exact ok_some hI

theorem sX12_names {g : Nat} (σ : S2) (a1 : Int32) (a2 : Int32) (a3 : Int32) (hI : IvM g σ)   : Ok (fun z => IvM g z.2) (fX12_names σ a1 a2 a3) := by
  unfold fX12_names
  exact sX12_names_0 σ a1 a2 a3 hI

theorem sX12_count_91 {g : Nat} (k70 : S2 → Int32 → Int32 → Int32 → Option Int32) (σ : S2) (x1 : Int32) (x3 : Int32) (s0 : Int32) (s1 : Int32) (s3 : Int32) (hI : IvM g σ) (p9000 : 4 ≤ x1.toInt) (p9001 : x1.toInt ≤ 5) (p9002 : 0 ≤ x3.toInt) (p9003 : x3.toInt ≤ 11) (p9004 : 0 ≤ s0.toInt) (p9005 : s0.toInt ≤ 1) (p9006 : 0 ≤ s1.toInt) (p9007 : s1.toInt ≤ 11) (hk70 : ∀ (y0 : S2) (y1 : Int32) (y2 : Int32) (y3 : Int32), IvM g y0 → 4 ≤ y1.toInt → y1.toInt ≤ 5 → 0 ≤ y3.toInt → y3.toInt ≤ 12 → x3.toInt + 1 ≤ y3.toInt → Ok (fun z => True) (k70 y0 y1 y2 y3)) : Ok (fun z => True) (fX12_count_91 k70 σ x1 x3 s0 s1 s3) := by
  have hFU : ((FU : Nat) : Int) = 100000 := rfl
  unfold fX12_count_91
  refine ok_bi (sX12_many σ s1 s0 hI (by omega) (by omega) (by omega) (by omega)) (fun r1 hr1 => ?_)
  have := i32_rng s3
  have := i32_rng r1
  have := i32_rng (s3 + r1)
  refine ok_nmI (fun v3 hv3 he2 => ?_)
  have : (1 : Int32).toInt = 1 := by decide
  have : ((x3 + 1) : Int32).toInt = (x3 : Int32).toInt + (1 : Int32).toInt := i32_add (by omega) (by omega)
  refine ok_nmI (fun v4 hv4 he3 => ?_)
  have := i32_rng v3
  exact hk70 σ x1 v3 v4 hI (by omega) (by omega) (by omega) (by omega) (by omega)

theorem sX12_count_70 {g : Nat} : ∀ (n : Nat) (σ : S2) (x1 : Int32) (x2 : Int32) (x3 : Int32), IvM g σ → 4 ≤ x1.toInt → x1.toInt ≤ 5 → 0 ≤ x3.toInt → x3.toInt ≤ 12 → 12 - x3.toInt < (n : Int) → Ok (fun z => True) (fX12_count_70 n σ x1 x2 x3) := by
  have hFU : ((FU : Nat) : Int) = 100000 := rfl
  intro n
  induction n with
  | zero => intro σ x1 x2 x3 hI p9000 p9001 p9002 p9003 hm; exfalso; omega
  | succ n ih =>
    intro σ x1 x2 x3 hI p9000 p9001 p9002 p9003 hm
    unfold fX12_count_70
    have : 0 ≤ (σ.1 0 3).toInt ∧ (σ.1 0 3).toInt ≤ 12 := hI.1 0 3
    refine ok_le (fun h1 => ?_) (fun h1 => ?_)
    · have := i32_rng x2
      exact ok_some trivial
    · have : (4 : Int32).toInt = 4 := by decide
      refine ok_eq (fun h2 => ?_) (fun h2 => ?_)
      · have : (1 : Int32).toInt = 1 := by decide
        have := i32_rng x2
        exact sX12_count_91 (fX12_count_70 n) σ x1 x3 1 x3 x2 hI (by omega) (by omega) (by omega) (by omega) (by omega) (by omega) (by omega) (by omega) (fun y0 y1 y2 y3 q0 q1 q2 q3 q4 q5 => ih y0 y1 y2 y3 q0 q1 q2 q3 q4 (by omega))
      · have : (0 : Int32).toInt = 0 := by decide
        have := i32_rng x2
        exact sX12_count_91 (fX12_count_70 n) σ x1 x3 0 x3 x2 hI (by omega) (by omega) (by omega) (by omega) (by omega) (by omega) (by omega) (by omega) (fun y0 y1 y2 y3 q0 q1 q2 q3 q4 q5 => ih y0 y1 y2 y3 q0 q1 q2 q3 q4 (by omega))

theorem sX12_count_0 {g : Nat} (σ : S2) (x1 : Int32) (hI : IvM g σ)   : Ok (fun z => True) (fX12_count_0 σ x1) := by
  have hFU : ((FU : Nat) : Int) = 100000 := rfl
  unfold fX12_count_0
  have := i32_rng x1
  have : (0 : Int32).toInt = 0 := by decide
  refine ok_eq (fun h1 => ?_) (fun h1 => ?_)
  · have : 0 ≤ (σ.1 0 0).toInt ∧ (σ.1 0 0).toInt ≤ 40 := hI.1 0 0
    exact ok_some trivial
  · have : (1 : Int32).toInt = 1 := by decide
    refine ok_eq (fun h2 => ?_) (fun h2 => ?_)
    · have : 0 ≤ (σ.1 0 3).toInt ∧ (σ.1 0 3).toInt ≤ 12 := hI.1 0 3
      exact ok_some trivial
    · have : (2 : Int32).toInt = 2 := by decide
      refine ok_eq (fun h3 => ?_) (fun h3 => ?_)
      · have : 0 ≤ (σ.1 0 9).toInt ∧ (σ.1 0 9).toInt ≤ 10 := hI.1 0 9
        exact ok_some trivial
      · have : (3 : Int32).toInt = 3 := by decide
        refine ok_eq (fun h4 => ?_) (fun h4 => ?_)
        · have : 0 ≤ (σ.1 0 22).toInt ∧ (σ.1 0 22).toInt ≤ 80 := hI.1 0 22
          exact ok_some trivial
        · have : (4 : Int32).toInt = 4 := by decide
          refine ok_eq (fun h5 => ?_) (fun h5 => ?_)
          · exact sX12_count_70 FU σ x1 0 0 hI (by omega) (by omega) (by omega) (by omega) (by omega)
          · have : (5 : Int32).toInt = 5 := by decide
            refine ok_eq (fun h6 => ?_) (fun h6 => ?_)
            · exact sX12_count_70 FU σ x1 0 0 hI (by omega) (by omega) (by omega) (by omega) (by omega)
            · have : (6 : Int32).toInt = 6 := by decide
              refine ok_eq (fun h7 => ?_) (fun h7 => ?_)
              · have := i32_rng (σ.1 0 29)
                exact ok_some trivial
              · have : (7 : Int32).toInt = 7 := by decide
                refine ok_eq (fun h8 => ?_) (fun h8 => ?_)
                · have : 0 ≤ (σ.1 0 38).toInt ∧ (σ.1 0 38).toInt ≤ 1000 := hI.1 0 38
                  exact ok_some trivial
                · have : ((-1) : Int32).toInt = (-1) := by decide
                  exact ok_some trivial

theorem sX12_count {g : Nat} (σ : S2) (a1 : Int32) (hI : IvM g σ)   : Ok (fun z => True) (fX12_count σ a1) := by
  unfold fX12_count
  exact sX12_count_0 σ a1 hI

