theorem sX7_holdRow_0 (τ : Nat) (σ : S2) (x1 : Int32) (x2 : Int32) (x3 : Int32) (hI : IvC 0 τ σ) (p9000 : 0 ≤ x1.toInt) (p9001 : x1.toInt ≤ 5) (p9002 : 0 ≤ x2.toInt) (p9003 : x2.toInt ≤ 4) (p9004 : 0 ≤ x3.toInt) (p9005 : x3.toInt ≤ 60)  : Ok (fun z => IvC 0 τ z.2) (fX7_holdRow_0 τ σ x1 x2 x3) := by
  have hFU : ((FU : Nat) : Int) = 100000 := rfl
  unfold fX7_holdRow_0
  refine ok_ck (by omega) (by omega) ?_
  have : ((-1) : Int32).toInt = (-1) := by decide
  refine ok_nm (fun σ1 hs1 => ?_)
  have hI2 : IvC 0 τ σ1 := by rw [hs1]; exact IvC.wF hI (by decide) (by omega) (show (-1) ≤ ((-1) : Int32).toInt by omega) (show ((-1) : Int32).toInt ≤ 11 by omega)
  refine ok_ck (by omega) (by omega) ?_
  refine ok_nm (fun σ2 hs3 => ?_)
  have hI4 : IvC 0 τ σ2 := by rw [hs3]; exact IvC.wF hI2 (by decide) (by omega) (show (-1) ≤ (x2 : Int32).toInt by omega) (show (x2 : Int32).toInt ≤ 4 by omega)
  refine ok_ck (by omega) (by omega) ?_
  refine ok_nm (fun σ3 hs5 => ?_)
  have hI6 : IvC 0 τ σ3 := by rw [hs5]; exact IvC.wF hI4 (by decide) (by omega) (show 0 ≤ (x3 : Int32).toInt by omega) (show (x3 : Int32).toInt ≤ 60 by omega)
  refine ok_ck (by omega) (by omega) ?_
  refine ok_bs (sJ7_fill_d0a16 τ (176 + (Int32.toNatClampNeg x1)) 60 σ3 0 hI6 (by omega)) (fun r5 σ6 hr7 => ?_)
  have hr7 : IvC 0 τ σ6 := hr7
  exact ok_some hr7

theorem sX7_holdRow (τ : Nat) (σ : S2) (a1 : Int32) (a2 : Int32) (a3 : Int32) (hI : IvC 0 τ σ) (p9000 : 0 ≤ a1.toInt) (p9001 : a1.toInt ≤ 5) (p9002 : 0 ≤ a2.toInt) (p9003 : a2.toInt ≤ 4) (p9004 : 0 ≤ a3.toInt) (p9005 : a3.toInt ≤ 60)  : Ok (fun z => IvC 0 τ z.2) (fX7_holdRow τ σ a1 a2 a3) := by
  unfold fX7_holdRow
  exact sX7_holdRow_0 τ σ a1 a2 a3 hI (by assumption) (by assumption) (by assumption) (by assumption) (by assumption) (by assumption)

theorem sX7_isRow_0 (τ : Nat) (σ : S2) (x1 : Int32) (hI : IvC 0 τ σ) (p9000 : 0 ≤ x1.toInt) (p9001 : x1.toInt ≤ 5)  : Ok (fun z => 0 ≤ z.toInt ∧ z.toInt ≤ 1) (fX7_isRow_0 τ σ x1) := by
  have hFU : ((FU : Nat) : Int) = 100000 := rfl
  unfold fX7_isRow_0
  refine ok_ck (by omega) (by omega) ?_
  have : (-1) ≤ (σ.1 39 (Int32.toNatClampNeg x1)).toInt ∧ (σ.1 39 (Int32.toNatClampNeg x1)).toInt ≤ 4 := hI.1 39 (Int32.toNatClampNeg x1)
  refine ok_nmI (fun v1 hv1 he1 => ?_)
  have : ((-1) : Int32).toInt = (-1) := by decide
  refine ok_eq (fun h2 => ?_) (fun h2 => ?_)
  · have : (0 : Int32).toInt = 0 := by decide
    exact ok_some ⟨by show 0 ≤ (0 : Int32).toInt; omega, by show (0 : Int32).toInt ≤ 1; omega⟩
  · have : (1 : Int32).toInt = 1 := by decide
    exact ok_some ⟨by show 0 ≤ (1 : Int32).toInt; omega, by show (1 : Int32).toInt ≤ 1; omega⟩

theorem sX7_isRow (τ : Nat) (σ : S2) (a1 : Int32) (hI : IvC 0 τ σ) (p9000 : 0 ≤ a1.toInt) (p9001 : a1.toInt ≤ 5)  : Ok (fun z => 0 ≤ z.toInt ∧ z.toInt ≤ 1) (fX7_isRow τ σ a1) := by
  unfold fX7_isRow
  exact sX7_isRow_0 τ σ a1 hI (by assumption) (by assumption)

theorem sX7_isEmpty_0 (τ : Nat) (σ : S2) (x1 : Int32) (hI : IvC 0 τ σ) (p9000 : 0 ≤ x1.toInt) (p9001 : x1.toInt ≤ 5)  : Ok (fun z => 0 ≤ z.toInt ∧ z.toInt ≤ 1) (fX7_isEmpty_0 τ σ x1) := by
  have hFU : ((FU : Nat) : Int) = 100000 := rfl
  unfold fX7_isEmpty_0
  refine ok_ck (by omega) (by omega) ?_
  have : (-1) ≤ (σ.1 39 (Int32.toNatClampNeg x1)).toInt ∧ (σ.1 39 (Int32.toNatClampNeg x1)).toInt ≤ 4 := hI.1 39 (Int32.toNatClampNeg x1)
  refine ok_nmI (fun v1 hv1 he1 => ?_)
  have : ((-1) : Int32).toInt = (-1) := by decide
  refine ok_eq (fun h2 => ?_) (fun h2 => ?_)
  · refine ok_ck (by omega) (by omega) ?_
    have : (-1) ≤ (σ.1 38 (Int32.toNatClampNeg x1)).toInt ∧ (σ.1 38 (Int32.toNatClampNeg x1)).toInt ≤ 11 := hI.1 38 (Int32.toNatClampNeg x1)
    refine ok_nmI (fun v2 hv2 he3 => ?_)
    refine ok_eq (fun h4 => ?_) (fun h4 => ?_)
    · have : (1 : Int32).toInt = 1 := by decide
      exact ok_some ⟨by show 0 ≤ (1 : Int32).toInt; omega, by show (1 : Int32).toInt ≤ 1; omega⟩
    · have : (0 : Int32).toInt = 0 := by decide
      exact ok_some ⟨by show 0 ≤ (0 : Int32).toInt; omega, by show (0 : Int32).toInt ≤ 1; omega⟩
  · have : (0 : Int32).toInt = 0 := by decide
    exact ok_some ⟨by show 0 ≤ (0 : Int32).toInt; omega, by show (0 : Int32).toInt ≤ 1; omega⟩

theorem sX7_isEmpty (τ : Nat) (σ : S2) (a1 : Int32) (hI : IvC 0 τ σ) (p9000 : 0 ≤ a1.toInt) (p9001 : a1.toInt ≤ 5)  : Ok (fun z => 0 ≤ z.toInt ∧ z.toInt ≤ 1) (fX7_isEmpty τ σ a1) := by
  unfold fX7_isEmpty
  exact sX7_isEmpty_0 τ σ a1 hI (by assumption) (by assumption)

theorem sX7_refusalAt_0 (τ : Nat) (σ : S2) (x1 : Int32) (x2 : Int32) (hI : IvC 0 τ σ) (p9000 : 0 ≤ x1.toInt) (p9001 : x1.toInt ≤ 5)  : Ok (fun z => (-13) ≤ z.toInt ∧ z.toInt ≤ 0 ∧ (z.toInt = 0 → 0 ≤ x2.toInt ∧ x2.toInt ≤ 59)) (fX7_refusalAt_0 τ σ x1 x2) := by
  have hFU : ((FU : Nat) : Int) = 100000 := rfl
  unfold fX7_refusalAt_0
  refine ok_bi (sX7_isEmpty τ σ x1 hI (by omega) (by omega)) (fun r1 hr1 => ?_)
  obtain ⟨p2, p3⟩ := hr1
  have p2 : 0 ≤ r1.toInt := p2
  have p3 : r1.toInt ≤ 1 := p3
  have : (0 : Int32).toInt = 0 := by decide
  refine ok_eq (fun h4 => ?_) (fun h4 => ?_)
  · refine ok_bi (sX7_isRow τ σ x1 hI (by omega) (by omega)) (fun r3 hr5 => ?_)
    obtain ⟨p6, p7⟩ := hr5
    have p6 : 0 ≤ r3.toInt := p6
    have p7 : r3.toInt ≤ 1 := p7
    refine ok_eq (fun h8 => ?_) (fun h8 => ?_)
    · have : ((-12) : Int32).toInt = (-12) := by decide
      exact ok_some ⟨by show (-13) ≤ ((-12) : Int32).toInt; omega, by show ((-12) : Int32).toInt ≤ 0; omega, by show ((-12) : Int32).toInt = 0 → 0 ≤ x2.toInt ∧ x2.toInt ≤ 59; omega⟩
    · have := i32_rng x2
      refine ok_lt (fun h9 => ?_) (fun h9 => ?_)
      · have : ((-13) : Int32).toInt = (-13) := by decide
        exact ok_some ⟨by show (-13) ≤ ((-13) : Int32).toInt; omega, by show ((-13) : Int32).toInt ≤ 0; omega, by show ((-13) : Int32).toInt = 0 → 0 ≤ x2.toInt ∧ x2.toInt ≤ 59; omega⟩
      · refine ok_ck (by omega) (by omega) ?_
        have : 0 ≤ (σ.1 40 (Int32.toNatClampNeg x1)).toInt ∧ (σ.1 40 (Int32.toNatClampNeg x1)).toInt ≤ 60 := hI.1 40 (Int32.toNatClampNeg x1)
        refine ok_nmI (fun v5 hv5 he10 => ?_)
        refine ok_le (fun h11 => ?_) (fun h11 => ?_)
        · have : ((-13) : Int32).toInt = (-13) := by decide
          exact ok_some ⟨by show (-13) ≤ ((-13) : Int32).toInt; omega, by show ((-13) : Int32).toInt ≤ 0; omega, by show ((-13) : Int32).toInt = 0 → 0 ≤ x2.toInt ∧ x2.toInt ≤ 59; omega⟩
        · exact ok_some ⟨by show (-13) ≤ (0 : Int32).toInt; omega, by show (0 : Int32).toInt ≤ 0; omega, by show (0 : Int32).toInt = 0 → 0 ≤ x2.toInt ∧ x2.toInt ≤ 59; omega⟩
  · have : ((-11) : Int32).toInt = (-11) := by decide
    exact ok_some ⟨by show (-13) ≤ ((-11) : Int32).toInt; omega, by show ((-11) : Int32).toInt ≤ 0; omega, by show ((-11) : Int32).toInt = 0 → 0 ≤ x2.toInt ∧ x2.toInt ≤ 59; omega⟩

theorem sX7_refusalAt (τ : Nat) (σ : S2) (a1 : Int32) (a2 : Int32) (hI : IvC 0 τ σ) (p9000 : 0 ≤ a1.toInt) (p9001 : a1.toInt ≤ 5)  : Ok (fun z => (-13) ≤ z.toInt ∧ z.toInt ≤ 0 ∧ (z.toInt = 0 → 0 ≤ a2.toInt ∧ a2.toInt ≤ 59)) (fX7_refusalAt τ σ a1 a2) := by
  unfold fX7_refusalAt
  exact sX7_refusalAt_0 τ σ a1 a2 hI (by assumption) (by assumption)

theorem sX7_spans_0 (τ : Nat) (σ : S2) (x1 : Int32) (x2 : Int32) (x3 : Int32) (hI : IvC 0 τ σ) (p9000 : 0 ≤ x1.toInt) (p9001 : x1.toInt ≤ 5)  : Ok (fun z => 0 ≤ z.toInt ∧ z.toInt ≤ 1 ∧ (z.toInt ≠ 0 → 0 ≤ x2.toInt ∧ 0 ≤ x3.toInt ∧ x2.toInt + x3.toInt ≤ 60)) (fX7_spans_0 τ σ x1 x2 x3) := by
  have hFU : ((FU : Nat) : Int) = 100000 := rfl
  unfold fX7_spans_0
  have := i32_rng x2
  have : (0 : Int32).toInt = 0 := by decide
  refine ok_lt (fun h1 => ?_) (fun h1 => ?_)
  · exact ok_some ⟨by show 0 ≤ (0 : Int32).toInt; omega, by show (0 : Int32).toInt ≤ 1; omega, by show (0 : Int32).toInt ≠ 0 → 0 ≤ x2.toInt ∧ 0 ≤ x3.toInt ∧ x2.toInt + x3.toInt ≤ 60; omega⟩
  · have := i32_rng x3
    refine ok_lt (fun h2 => ?_) (fun h2 => ?_)
    · exact ok_some ⟨by show 0 ≤ (0 : Int32).toInt; omega, by show (0 : Int32).toInt ≤ 1; omega, by show (0 : Int32).toInt ≠ 0 → 0 ≤ x2.toInt ∧ 0 ≤ x3.toInt ∧ x2.toInt + x3.toInt ≤ 60; omega⟩
    · refine ok_ck (by omega) (by omega) ?_
      have : 0 ≤ (σ.1 40 (Int32.toNatClampNeg x1)).toInt ∧ (σ.1 40 (Int32.toNatClampNeg x1)).toInt ≤ 60 := hI.1 40 (Int32.toNatClampNeg x1)
      refine ok_nmI (fun v1 hv1 he3 => ?_)
      refine ok_lt (fun h4 => ?_) (fun h4 => ?_)
      · exact ok_some ⟨by show 0 ≤ (0 : Int32).toInt; omega, by show (0 : Int32).toInt ≤ 1; omega, by show (0 : Int32).toInt ≠ 0 → 0 ≤ x2.toInt ∧ 0 ≤ x3.toInt ∧ x2.toInt + x3.toInt ≤ 60; omega⟩
      · refine ok_ck (by omega) (by omega) ?_
        refine ok_nmI (fun v2 hv2 he5 => ?_)
        have : ((v2 - x2) : Int32).toInt = (v2 : Int32).toInt - (x2 : Int32).toInt := i32_sub (by omega) (by omega)
        refine ok_lt (fun h6 => ?_) (fun h6 => ?_)
        · exact ok_some ⟨by show 0 ≤ (0 : Int32).toInt; omega, by show (0 : Int32).toInt ≤ 1; omega, by show (0 : Int32).toInt ≠ 0 → 0 ≤ x2.toInt ∧ 0 ≤ x3.toInt ∧ x2.toInt + x3.toInt ≤ 60; omega⟩
        · have : (1 : Int32).toInt = 1 := by decide
          exact ok_some ⟨by show 0 ≤ (1 : Int32).toInt; omega, by show (1 : Int32).toInt ≤ 1; omega, by show (1 : Int32).toInt ≠ 0 → 0 ≤ x2.toInt ∧ 0 ≤ x3.toInt ∧ x2.toInt + x3.toInt ≤ 60; omega⟩

theorem sX7_spans (τ : Nat) (σ : S2) (a1 : Int32) (a2 : Int32) (a3 : Int32) (hI : IvC 0 τ σ) (p9000 : 0 ≤ a1.toInt) (p9001 : a1.toInt ≤ 5)  : Ok (fun z => 0 ≤ z.toInt ∧ z.toInt ≤ 1 ∧ (z.toInt ≠ 0 → 0 ≤ a2.toInt ∧ 0 ≤ a3.toInt ∧ a2.toInt + a3.toInt ≤ 60)) (fX7_spans τ σ a1 a2 a3) := by
  unfold fX7_spans
  exact sX7_spans_0 τ σ a1 a2 a3 hI (by assumption) (by assumption)

theorem sX7_lowest_0 (τ : Nat) (σ : S2) (x0 : Int32) (x1 : Int64) (hI : IvC 0 τ σ) (p9000 : (-1) ≤ x0.toInt) (p9001 : x0.toInt ≤ 4)  : Ok (fun z => True) (fX7_lowest_0 τ σ x0 x1) := by
  have hFU : ((FU : Nat) : Int) = 100000 := rfl
  unfold fX7_lowest_0
  have : (0 : Int32).toInt = 0 := by decide
  refine ok_eq (fun h1 => ?_) (fun h1 => ?_)
  · exact ok_some trivial
  · have : (1 : Int32).toInt = 1 := by decide
    refine ok_eq (fun h2 => ?_) (fun h2 => ?_)
    · exact ok_some trivial
    · have : (2 : Int32).toInt = 2 := by decide
      refine ok_eq (fun h3 => ?_) (fun h3 => ?_)
      · exact ok_some trivial
      · have : (3 : Int32).toInt = 3 := by decide
        refine ok_eq (fun h4 => ?_) (fun h4 => ?_)
        · exact ok_some trivial
        · have : (4 : Int32).toInt = 4 := by decide
          refine ok_eq (fun h5 => ?_) (fun h5 => ?_)
          · have := i32_rng (lg_cmp x1 0)
            refine ok_eq (fun h6 => ?_) (fun h6 => ?_)
            · exact ok_some trivial
            · exact ok_some trivial
          · exact ok_some trivial

theorem sX7_lowest (τ : Nat) (σ : S2) (a0 : Int32) (a1 : Int64) (hI : IvC 0 τ σ) (p9000 : (-1) ≤ a0.toInt) (p9001 : a0.toInt ≤ 4)  : Ok (fun z => True) (fX7_lowest τ σ a0 a1) := by
  unfold fX7_lowest
  exact sX7_lowest_0 τ σ a0 a1 hI (by assumption) (by assumption)

theorem sX8_takeMembers_36 (τ : Nat) (b0 : Nat) (k7 : S2 → Int32 → Int32 → Option (Unit × S2)) (σ : S2) (x1 : Int32) (x3 : Int32) (s0 : Int32) (s1 : Int32) (hI : IvC 0 τ σ) (p9000 : 0 ≤ x3.toInt) (p9001 : x3.toInt ≤ 11) (p9002 : 0 ≤ s0.toInt) (p9003 : s0.toInt ≤ 16) (p9004 : 0 ≤ s1.toInt) (p9005 : s1.toInt ≤ 11) (hk7 : ∀ (y0 : S2) (y1 : Int32) (y2 : Int32), IvC 0 τ y0 → 0 ≤ y2.toInt → y2.toInt ≤ 12 → x3.toInt + 1 ≤ y2.toInt → Ok (fun z => IvC 0 τ z.2) (k7 y0 y1 y2)) : Ok (fun z => IvC 0 τ z.2) (fX8_takeMembers_36 τ b0 k7 σ x1 x3 s0 s1) := by
  have hFU : ((FU : Nat) : Int) = 100000 := rfl
  unfold fX8_takeMembers_36
  refine ok_ck (by omega) (by omega) ?_
  refine ok_nm (fun σ1 hs1 => ?_)
  have hI2 : IvC 0 τ σ1 := by rw [hs1]; exact IvC.wT (b := b0) (j := 1) hI (by decide) (by decide) (show 0 ≤ (s0 : Int32).toInt by omega) (show (s0 : Int32).toInt ≤ 16 by omega)
  have : (1 : Int32).toInt = 1 := by decide
  have : ((x3 + 1) : Int32).toInt = (x3 : Int32).toInt + (1 : Int32).toInt := i32_add (by omega) (by omega)
  refine ok_nmI (fun v2 hv2 he3 => ?_)
  have := i32_rng x1
  exact hk7 σ1 x1 v2 hI2 (by omega) (by omega) (by omega)

theorem sX8_takeMembers_7 (τ : Nat) (b0 : Nat) : ∀ (n : Nat) (σ : S2) (x1 : Int32) (x3 : Int32), IvC 0 τ σ → 0 ≤ x3.toInt → x3.toInt ≤ 12 → 12 - x3.toInt < (n : Int) → Ok (fun z => IvC 0 τ z.2) (fX8_takeMembers_7 τ b0 n σ x1 x3) := by
  have hFU : ((FU : Nat) : Int) = 100000 := rfl
  intro n
  induction n with
  | zero => intro σ x1 x3 hI p9000 p9001 hm; exfalso; omega
  | succ n ih =>
    intro σ x1 x3 hI p9000 p9001 hm
    unfold fX8_takeMembers_7
    have : (12 : Int32).toInt = 12 := by decide
    refine ok_le (fun h1 => ?_) (fun h1 => ?_)
    · exact ok_some hI
    · have := i32_rng x1
      have : (31 : Int32).toInt = 31 := by decide
      have := i32_andR (a := x3) (m := 31) (by omega)
      have := i32_andL (a := x3) (m := 31) (by omega)
      have := i32_rng (x1 >>> (x3 &&& 31))
      have : (1 : Int32).toInt = 1 := by decide
      have := i32_andR (a := (x1 >>> (x3 &&& 31))) (m := 1) (by omega)
      refine ok_eq (fun h2 => ?_) (fun h2 => ?_)
      · refine ok_bi (sX2_counting τ σ x3 hI (by omega) (by omega)) (fun r3 hr3 => ?_)
        obtain ⟨p4, p5⟩ := hr3
        have p4 : 0 ≤ r3.toInt := p4
        have p5 : r3.toInt ≤ 16 := p5
        exact sX8_takeMembers_36 τ b0 (fX8_takeMembers_7 τ b0 n) σ x1 x3 r3 x3 hI (by omega) (by omega) (by omega) (by omega) (by omega) (by omega) (fun y0 y1 y2 q0 q1 q2 q3 => ih y0 y1 y2 q0 q1 q2 (by omega))
      · have : (0 : Int32).toInt = 0 := by decide
        exact sX8_takeMembers_36 τ b0 (fX8_takeMembers_7 τ b0 n) σ x1 x3 0 x3 hI (by omega) (by omega) (by omega) (by omega) (by omega) (by omega) (fun y0 y1 y2 q0 q1 q2 q3 => ih y0 y1 y2 q0 q1 q2 (by omega))

