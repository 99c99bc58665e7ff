theorem sX8_alikeIn_12 (τ : Nat) (b0 : Nat) (b1 : Nat) : ∀ (n : Nat) (σ : S2) (x2 : Int32) (x3 : Int32), IvC 0 τ σ → 0 ≤ x3.toInt → x3.toInt ≤ 12 → 12 - x3.toInt < (n : Int) → Ok (fun z => True) (fX8_alikeIn_12 τ b0 b1 n σ x2 x3) := by
  have hFU : ((FU : Nat) : Int) = 100000 := rfl
  intro n
  induction n with
  | zero => intro σ x2 x3 hI p9000 p9001 hm; exfalso; omega
  | succ n ih =>
    intro σ x2 x3 hI p9000 p9001 hm
    unfold fX8_alikeIn_12
    have : (12 : Int32).toInt = 12 := by decide
    refine ok_le (fun h1 => ?_) (fun h1 => ?_)
    · have := i32_rng x2
      exact ok_some trivial
    · refine ok_ck (by omega) (by omega) ?_
      have : 0 ≤ (σ.1 ((182 + (6 * b0)) + 1) (Int32.toNatClampNeg x3)).toInt ∧ (σ.1 ((182 + (6 * b0)) + 1) (Int32.toNatClampNeg x3)).toInt ≤ 16 := hI.1.t b0 1 (Int32.toNatClampNeg x3) (by decide)
      refine ok_nmI (fun v2 hv2 he2 => ?_)
      refine ok_ck (by omega) (by omega) ?_
      have : 0 ≤ (σ.1 ((182 + (6 * b1)) + 1) (Int32.toNatClampNeg x3)).toInt ∧ (σ.1 ((182 + (6 * b1)) + 1) (Int32.toNatClampNeg x3)).toInt ≤ 16 := hI.1.t b1 1 (Int32.toNatClampNeg x3) (by decide)
      refine ok_nmI (fun v3 hv3 he3 => ?_)
      refine ok_eq (fun h4 => ?_) (fun h4 => ?_)
      · have := i32_rng x2
        exact sX8_alikeIn_41 τ b0 b1 (fX8_alikeIn_12 τ b0 b1 n) σ x2 x3 hI (by omega) (by omega) (fun y0 y1 y2 q0 q1 q2 q3 => ih y0 y1 y2 q0 q1 q2 (by omega))
      · have := i32_rng x2
        have : (1 : Int32).toInt = 1 := by decide
        have : (31 : Int32).toInt = 31 := by decide
        have := i32_andR (a := x3) (m := 31) (by omega)
        have := i32_andL (a := x3) (m := 31) (by omega)
        have : 1 ≤ ((1 <<< (x3 &&& 31)) : Int32).toInt ∧ ((1 <<< (x3 &&& 31)) : Int32).toInt ≤ 2048 := i32_shlB 11 (by omega) (by omega) (by decide)
        have : ((-1) : Int32).toInt = (-1) := by decide
        have := i32_rng ((1 <<< (x3 &&& 31)) ^^^ (-1))
        have := i32_rng (x2 &&& ((1 <<< (x3 &&& 31)) ^^^ (-1)))
        refine ok_nmI (fun v4 hv4 he5 => ?_)
        have := i32_rng v4
        exact sX8_alikeIn_41 τ b0 b1 (fX8_alikeIn_12 τ b0 b1 n) σ v4 x3 hI (by omega) (by omega) (fun y0 y1 y2 q0 q1 q2 q3 => ih y0 y1 y2 q0 q1 q2 (by omega))

theorem sX8_alikeIn_0 (τ : Nat) (b0 : Nat) (b1 : Nat) (σ : S2) (hI : IvC 0 τ σ)   : Ok (fun z => True) (fX8_alikeIn_0 τ b0 b1 σ) := by
  have hFU : ((FU : Nat) : Int) = 100000 := rfl
  unfold fX8_alikeIn_0
  have := i32_rng (σ.1 (182 + (6 * b0)) 0)
  have := i32_rng (σ.1 (182 + (6 * b1)) 0)
  have := i32_rng ((σ.1 (182 + (6 * b0)) 0) &&& (σ.1 (182 + (6 * b1)) 0))
  refine ok_nmI (fun v5 hv5 he1 => ?_)
  have := i32_rng v5
  have : (0 : Int32).toInt = 0 := by decide
  exact sX8_alikeIn_12 τ b0 b1 FU σ v5 0 hI (by omega) (by omega) (by omega)

theorem sX8_alikeIn (τ : Nat) (b0 : Nat) (b1 : Nat) (σ : S2) (hI : IvC 0 τ σ)   : Ok (fun z => True) (fX8_alikeIn τ b0 b1 σ) := by
  unfold fX8_alikeIn
  exact sX8_alikeIn_0 τ b0 b1 σ hI

theorem sX9_append_2 (τ : Nat) : ∀ (n : Nat) (σ : S2) (x1 : Int32) (x2 : Int32) (x3 : Int32), IvC 0 τ σ → 1 ≤ x1.toInt → x1.toInt ≤ 4 → 0 ≤ x3.toInt → x3.toInt ≤ 4 → 4 - x3.toInt < (n : Int) → Ok (fun z => IvC 0 τ z.2) (fX9_append_2 τ n σ x1 x2 x3) := by
  have hFU : ((FU : Nat) : Int) = 100000 := rfl
  intro n
  induction n with
  | zero => intro σ x1 x2 x3 hI p9000 p9001 p9002 p9003 hm; exfalso; omega
  | succ n ih =>
    intro σ x1 x2 x3 hI p9000 p9001 p9002 p9003 hm
    unfold fX9_append_2
    refine ok_le (fun h1 => ?_) (fun h1 => ?_)
    · exact ok_some hI
    · have : (80 : Int32).toInt = 80 := by decide
      have : 0 ≤ (σ.1 1 1).toInt ∧ (σ.1 1 1).toInt ≤ 80 := hI.1 1 1
      refine ok_le (fun h2 => ?_) (fun h2 => ?_)
      · exact ok_some hI
      · refine ok_ck (by omega) (by omega) ?_
        have := i32_narB (Int8.toInt32 (Int32.toInt8 (UInt32.toInt32 ((Int32.toUInt32 x2) >>> ((Int32.toUInt32 (8 * x3)) &&& (Int32.toUInt32 31))))))
        refine ok_nm (fun σ1 hs3 => ?_)
        have hI4 : IvC 0 τ σ1 := by rw [hs3]; exact IvC.wF hI (by decide) (by omega) (show (-128) ≤ ((vp_nar .byte (Int8.toInt32 (Int32.toInt8 (UInt32.toInt32 ((Int32.toUInt32 x2) >>> ((Int32.toUInt32 (8 * x3)) &&& (Int32.toUInt32 31))))))) : Int32).toInt by omega) (show ((vp_nar .byte (Int8.toInt32 (Int32.toInt8 (UInt32.toInt32 ((Int32.toUInt32 x2) >>> ((Int32.toUInt32 (8 * x3)) &&& (Int32.toUInt32 31))))))) : Int32).toInt ≤ 127 by omega)
        have : (σ1.1 1 1).toInt = (σ.1 1 1).toInt := by rw [hs3]; rfl
        have : 0 ≤ (σ1.1 1 1).toInt ∧ (σ1.1 1 1).toInt ≤ 80 := hI4.1 1 1
        have : (1 : Int32).toInt = 1 := by decide
        have : (((σ1.1 1 1) + 1) : Int32).toInt = ((σ1.1 1 1) : Int32).toInt + (1 : Int32).toInt := i32_add (by omega) (by omega)
        refine ok_nm (fun σ2 hs5 => ?_)
        have hI6 : IvC 0 τ σ2 := by rw [hs5]; exact IvC.wF hI4 (by decide) (by omega) (show 0 ≤ (((σ1.1 1 1) + 1) : Int32).toInt by omega) (show (((σ1.1 1 1) + 1) : Int32).toInt ≤ 80 by omega)
        have : (σ2.1 1 1).toInt = (((σ1.1 1 1) + 1) : Int32).toInt := by rw [hs5]; rfl
        have : ((x3 + 1) : Int32).toInt = (x3 : Int32).toInt + (1 : Int32).toInt := i32_add (by omega) (by omega)
        refine ok_nmI (fun v3 hv3 he7 => ?_)
        have := i32_rng x2
        exact ih σ2 x1 x2 v3 hI6 (by omega) (by omega) (by omega) (by omega) (by omega)

theorem sX9_append_0 (τ : Nat) (σ : S2) (x1 : Int32) (x2 : Int32) (hI : IvC 0 τ σ) (p9000 : 1 ≤ x1.toInt) (p9001 : x1.toInt ≤ 4)  : Ok (fun z => IvC 0 τ z.2) (fX9_append_0 τ σ x1 x2) := by
  have hFU : ((FU : Nat) : Int) = 100000 := rfl
  unfold fX9_append_0
  have := i32_rng x2
  have : (0 : Int32).toInt = 0 := by decide
  exact sX9_append_2 τ FU σ x1 x2 0 hI (by omega) (by omega) (by omega) (by omega) (by omega)

theorem sX9_append (τ : Nat) (σ : S2) (a1 : Int32) (a2 : Int32) (hI : IvC 0 τ σ) (p9000 : 1 ≤ a1.toInt) (p9001 : a1.toInt ≤ 4)  : Ok (fun z => IvC 0 τ z.2) (fX9_append τ σ a1 a2) := by
  unfold fX9_append
  exact sX9_append_0 τ σ a1 a2 hI (by assumption) (by assumption)

theorem sX10_greatestShare_79 (τ : Nat) (b1 : Nat) (k12 : S2 → Int32 → Int32 → Option (Int32 × S2)) (σ : S2) (x2 : Int32) (x3 : Int32) (hI : IvC 0 τ σ) (p9000 : 0 ≤ x2.toInt) (p9001 : 0 ≤ x3.toInt) (p9002 : x3.toInt ≤ 39) (hk12 : ∀ (y0 : S2) (y1 : Int32) (y2 : Int32), IvC 0 τ y0 → 0 ≤ y1.toInt → 0 ≤ y2.toInt → y2.toInt ≤ 40 → x3.toInt + 1 ≤ y2.toInt → Ok (fun z => IvC 0 τ z.2 ∧ 0 ≤ z.1.toInt) (k12 y0 y1 y2)) : Ok (fun z => IvC 0 τ z.2 ∧ 0 ≤ z.1.toInt) (fX10_greatestShare_79 τ b1 k12 σ x2 x3) := by
  have hFU : ((FU : Nat) : Int) = 100000 := rfl
  unfold fX10_greatestShare_79
  have : (1 : Int32).toInt = 1 := by decide
  have : ((x3 + 1) : Int32).toInt = (x3 : Int32).toInt + (1 : Int32).toInt := i32_add (by omega) (by omega)
  refine ok_nmI (fun v1 hv1 he1 => ?_)
  have := i32_rng x2
  exact hk12 σ x2 v1 hI (by omega) (by omega) (by omega) (by omega)

theorem sX10_greatestShare_12 (τ : Nat) (b1 : Nat) : ∀ (n : Nat) (σ : S2) (x2 : Int32) (x3 : Int32), IvC 0 τ σ → 0 ≤ x2.toInt → 0 ≤ x3.toInt → x3.toInt ≤ 40 → 40 - x3.toInt < (n : Int) → Ok (fun z => IvC 0 τ z.2 ∧ 0 ≤ z.1.toInt) (fX10_greatestShare_12 τ b1 n σ x2 x3) := by
  have hFU : ((FU : Nat) : Int) = 100000 := rfl
  intro n
  induction n with
  | zero => intro σ x2 x3 hI p9000 p9001 p9002 hm; exfalso; omega
  | succ n ih =>
    intro σ x2 x3 hI p9000 p9001 p9002 hm
    unfold fX10_greatestShare_12
    have : 0 ≤ (σ.1 3 3).toInt ∧ (σ.1 3 3).toInt ≤ 40 := hI.1 3 3
    refine ok_le (fun h1 => ?_) (fun h1 => ?_)
    · have := i32_rng x2
      exact ok_some ⟨hI, by show 0 ≤ x2.toInt; omega⟩
    · have := i32_rng (σ.1 (182 + (6 * b1)) 1)
      refine ok_bi (sX4_placeOf τ σ x3 (σ.1 (182 + (6 * b1)) 1) hI (by omega) (by omega)) (fun r2 hr2 => ?_)
      obtain ⟨p3, p4⟩ := hr2
      have p3 : 0 ≤ r2.toInt := p3
      have p4 : r2.toInt ≤ 999 := p4
      refine ok_bi (sX8_firstFor τ b1 σ r2 hI (by omega) (by omega)) (fun r4 hr5 => ?_)
      obtain ⟨p6, p7⟩ := hr5
      have p6 : (-1) ≤ r4.toInt := p6
      have p7 : r4.toInt ≤ 11 := p7
      have : (0 : Int32).toInt = 0 := by decide
      refine ok_lt (fun h8 => ?_) (fun h8 => ?_)
      · have := i32_rng x2
        exact sX10_greatestShare_79 τ b1 (fX10_greatestShare_12 τ b1 n) σ x2 x3 hI (by omega) (by omega) (by omega) (fun y0 y1 y2 q0 q1 q2 q3 q4 => ih y0 y1 y2 q0 q1 q2 q3 (by omega))
      · have : (12 : Int32).toInt = 12 := by decide
        refine ok_lt (fun h9 => ?_) (fun h9 => ?_)
        · refine ok_ck (by omega) (by omega) ?_
          have := i32_rng (σ.1 34 (Int32.toNatClampNeg r4))
          refine ok_nmI (fun v6 hv6 he10 => ?_)
          refine ok_ck (by omega) (by omega) ?_
          have := i32_rng v6
          have : (1 : Int32).toInt = 1 := by decide
          have := i32_rng (v6 + 1)
          refine ok_nm (fun σ7 hs11 => ?_)
          have hI12 : IvC 0 τ σ7 := by rw [hs11]; exact IvC.wF hI (by decide) (by omega) (i32_rng _).1 (i32_rng _).2
          have : (σ7.1 3 3).toInt = (σ.1 3 3).toInt := by rw [hs11]; rfl
          refine ok_ck (by omega) (by omega) ?_
          have := i32_rng (σ7.1 34 (Int32.toNatClampNeg r4))
          refine ok_nmI (fun v8 hv8 he13 => ?_)
          have := i32_rng x2
          have := i32_rng v8
          have := i32_iflt x2 v8 v8 x2
          refine ok_nmI (fun v9 hv9 he14 => ?_)
          have := i32_rng v9
          exact sX10_greatestShare_79 τ b1 (fX10_greatestShare_12 τ b1 n) σ7 v9 x3 hI12 (by omega) (by omega) (by omega) (fun y0 y1 y2 q0 q1 q2 q3 q4 => ih y0 y1 y2 q0 q1 q2 q3 (by omega))
        · exfalso; omega

theorem sX10_greatestShare_0 (τ : Nat) (b1 : Nat) (σ : S2) (hI : IvC 0 τ σ)   : Ok (fun z => IvC 0 τ z.2 ∧ 0 ≤ z.1.toInt) (fX10_greatestShare_0 τ b1 σ) := by
  have hFU : ((FU : Nat) : Int) = 100000 := rfl
  unfold fX10_greatestShare_0
  have : (0 : Int32).toInt = 0 := by decide
  refine ok_bs (sJ7_fill_53178 τ 34 12 σ 0 hI (by omega) (by omega) (by first | assumption | exact KeM.rf _ | exact FlC.a34) (by omega)) (fun r10 σ11 hr1 => ?_)
  have hr1 : IvC 0 τ σ11 := hr1
  exact sX10_greatestShare_12 τ b1 FU σ11 0 0 hr1 (by omega) (by omega) (by omega) (by omega)

theorem sX10_greatestShare (τ : Nat) (b1 : Nat) (σ : S2) (hI : IvC 0 τ σ)   : Ok (fun z => IvC 0 τ z.2 ∧ 0 ≤ z.1.toInt) (fX10_greatestShare τ b1 σ) := by
  unfold fX10_greatestShare
  exact sX10_greatestShare_0 τ b1 σ hI

theorem sX10_leastHarm_60 (τ : Nat) (b1 : Nat) (k10 : S2 → Int32 → Int32 → Option (Int32 × S2)) (σ : S2) (x3 : Int32) (x4 : Int32) (hI : IvC 0 τ σ) (p9000 : 0 ≤ x3.toInt) (p9001 : x3.toInt ≤ 5) (p9002 : 0 ≤ x4.toInt) (p9003 : x4.toInt ≤ 5) (hk10 : ∀ (y0 : S2) (y1 : Int32) (y2 : Int32), IvC 0 τ y0 → (-1) ≤ y1.toInt → y1.toInt ≤ 5 → 0 ≤ y2.toInt → y2.toInt ≤ 6 → x4.toInt + 1 ≤ y2.toInt → Ok (fun z => IvC 0 τ z.2 ∧ (-1) ≤ z.1.toInt ∧ z.1.toInt ≤ 5) (k10 y0 y1 y2)) : Ok (fun z => IvC 0 τ z.2 ∧ (-1) ≤ z.1.toInt ∧ z.1.toInt ≤ 5) (fX10_leastHarm_60 τ b1 k10 σ x3 x4) := by
  have hFU : ((FU : Nat) : Int) = 100000 := rfl
  unfold fX10_leastHarm_60
  have : (1 : Int32).toInt = 1 := by decide
  have : ((x4 + 1) : Int32).toInt = (x4 : Int32).toInt + (1 : Int32).toInt := i32_add (by omega) (by omega)
  refine ok_nmI (fun v1 hv1 he1 => ?_)
  exact hk10 σ x3 v1 hI (by omega) (by omega) (by omega) (by omega) (by omega)

theorem sX10_leastHarm_51 (τ : Nat) (b1 : Nat) (k10 : S2 → Int32 → Int32 → Option (Int32 × S2)) (σ : S2) (x4 : Int32) (x5 : Int32) (hI : IvC 0 τ σ) (p9000 : 0 ≤ x4.toInt) (p9001 : x4.toInt ≤ 5) (p9002 : 0 ≤ x5.toInt) (hk10 : ∀ (y0 : S2) (y1 : Int32) (y2 : Int32), IvC 0 τ y0 → (-1) ≤ y1.toInt → y1.toInt ≤ 5 → 0 ≤ y2.toInt → y2.toInt ≤ 6 → x4.toInt + 1 ≤ y2.toInt → Ok (fun z => IvC 0 τ z.2 ∧ (-1) ≤ z.1.toInt ∧ z.1.toInt ≤ 5) (k10 y0 y1 y2)) : Ok (fun z => IvC 0 τ z.2 ∧ (-1) ≤ z.1.toInt ∧ z.1.toInt ≤ 5) (fX10_leastHarm_51 τ b1 k10 σ x4 x5) := by
  have hFU : ((FU : Nat) : Int) = 100000 := rfl
  unfold fX10_leastHarm_51
  have := i32_rng x5
  refine ok_nm (fun σ2 hs1 => ?_)
  have hI2 : IvC 0 τ σ2 := by rw [hs1]; exact IvC.wF hI (by decide) (by omega) (i32_rng _).1 (i32_rng _).2
  exact sX10_leastHarm_60 τ b1 k10 σ2 x4 x4 hI2 (by omega) (by omega) (by omega) (by omega) (fun y0 y1 y2 q0 q1 q2 q3 q4 q5 => hk10 y0 y1 y2 q0 q1 q2 q3 q4 (by omega))

theorem sX10_leastHarm_10 (τ : Nat) (b1 : Nat) : ∀ (n : Nat) (σ : S2) (x3 : Int32) (x4 : Int32), IvC 0 τ σ → (-1) ≤ x3.toInt → x3.toInt ≤ 5 → 0 ≤ x4.toInt → x4.toInt ≤ 6 → 6 - x4.toInt < (n : Int) → Ok (fun z => IvC 0 τ z.2 ∧ (-1) ≤ z.1.toInt ∧ z.1.toInt ≤ 5) (fX10_leastHarm_10 τ b1 n σ x3 x4) := by
  have hFU : ((FU : Nat) : Int) = 100000 := rfl
  intro n
  induction n with
  | zero => intro σ x3 x4 hI p9000 p9001 p9002 p9003 hm; exfalso; omega
  | succ n ih =>
    intro σ x3 x4 hI p9000 p9001 p9002 p9003 hm
    unfold fX10_leastHarm_10
    have : 0 ≤ (σ.1 32 1).toInt ∧ (σ.1 32 1).toInt ≤ 6 := hI.1 32 1
    refine ok_le (fun h1 => ?_) (fun h1 => ?_)
    · have : (0 : Int32).toInt = 0 := by decide
      refine ok_nm (fun σ3 hs2 => ?_)
      have hI3 : IvC 0 τ σ3 := by rw [hs2]; exact IvC.wF hI (by decide) (by omega) (show 0 ≤ (0 : Int32).toInt by omega) (show (0 : Int32).toInt ≤ 6 by omega)
      have : (σ3.1 32 1).toInt = (0 : Int32).toInt := by rw [hs2]; rfl
      exact ok_some ⟨hI3, by show (-1) ≤ x3.toInt; omega, by show x3.toInt ≤ 5; omega⟩
    · refine ok_ck (by omega) (by omega) ?_
      have := i32_rng (σ.1 33 (Int32.toNatClampNeg x4))
      refine ok_nmI (fun v4 hv4 he4 => ?_)
      have := i32_rng v4
      refine ok_bs (sX8_seatAll τ 0 σ v4 hI) (fun r5 σ6 hr5 => ?_)
      have hr5 : IvC 0 τ σ6 := hr5
      refine ok_bs (sX10_greatestShare τ 0 σ6 hr5) (fun r8 σ9 hr7 => ?_)
      obtain ⟨p8, p9⟩ := hr7
      have p8 : IvC 0 τ σ9 := p8
      have p9 : 0 ≤ r8.toInt := p9
      have : ((-1) : Int32).toInt = (-1) := by decide
      refine ok_eq (fun h10 => ?_) (fun h10 => ?_)
      · have := i32_rng r8
        exact sX10_leastHarm_51 τ b1 (fX10_leastHarm_10 τ b1 n) σ9 x4 r8 p8 (by omega) (by omega) (by omega) (fun y0 y1 y2 q0 q1 q2 q3 q4 q5 => ih y0 y1 y2 q0 q1 q2 q3 q4 (by omega))
      · have := i32_rng (σ9.1 32 2)
        have := i32_rng r8
        refine ok_le (fun h11 => ?_) (fun h11 => ?_)
        · exact sX10_leastHarm_60 τ b1 (fX10_leastHarm_10 τ b1 n) σ9 x3 x4 p8 (by omega) (by omega) (by omega) (by omega) (fun y0 y1 y2 q0 q1 q2 q3 q4 q5 => ih y0 y1 y2 q0 q1 q2 q3 q4 (by omega))
        · exact sX10_leastHarm_51 τ b1 (fX10_leastHarm_10 τ b1 n) σ9 x4 r8 p8 (by omega) (by omega) (by omega) (fun y0 y1 y2 q0 q1 q2 q3 q4 q5 => ih y0 y1 y2 q0 q1 q2 q3 q4 (by omega))

theorem sX10_leastHarm_0 (τ : Nat) (b1 : Nat) (σ : S2) (hI : IvC 0 τ σ)   : Ok (fun z => IvC 0 τ z.2 ∧ (-1) ≤ z.1.toInt ∧ z.1.toInt ≤ 5) (fX10_leastHarm_0 τ b1 σ) := by
  have hFU : ((FU : Nat) : Int) = 100000 := rfl
  unfold fX10_leastHarm_0
  refine ok_bs (sX8_takeAll τ 0 b1 σ hI) (fun r11 σ12 hr1 => ?_)
  have hr1 : IvC 0 τ σ12 := hr1
  have : ((-1) : Int32).toInt = (-1) := by decide
  have : (0 : Int32).toInt = 0 := by decide
  exact sX10_leastHarm_10 τ b1 FU σ12 (-1) 0 hr1 (by omega) (by omega) (by omega) (by omega) (by omega)

theorem sX10_leastHarm (τ : Nat) (b1 : Nat) (σ : S2) (hI : IvC 0 τ σ)   : Ok (fun z => IvC 0 τ z.2 ∧ (-1) ≤ z.1.toInt ∧ z.1.toInt ≤ 5) (fX10_leastHarm τ b1 σ) := by
  unfold fX10_leastHarm
  exact sX10_leastHarm_0 τ b1 σ hI

theorem sX11_feed_0 (τ : Nat) (σ : S2) (x1 : Int32) (x2 : Int32) (hI : IvC 0 τ σ)   : Ok (fun z => IvC 0 τ z.2 ∧ (-3) ≤ z.1.toInt ∧ z.1.toInt ≤ 80) (fX11_feed_0 τ σ x1 x2) := by
  have hFU : ((FU : Nat) : Int) = 100000 := rfl
  unfold fX11_feed_0
  have := i32_rng x1
  have : (1 : Int32).toInt = 1 := by decide
  refine ok_lt (fun h1 => ?_) (fun h1 => ?_)
  · have : ((-1) : Int32).toInt = (-1) := by decide
    exact ok_some ⟨hI, by show (-3) ≤ ((-1) : Int32).toInt; omega, by show ((-1) : Int32).toInt ≤ 80; omega⟩
  · have : (4 : Int32).toInt = 4 := by decide
    refine ok_le (fun h2 => ?_) (fun h2 => ?_)
    · have : 0 ≤ (σ.1 1 1).toInt ∧ (σ.1 1 1).toInt ≤ 80 := hI.1 1 1
      have : (((σ.1 1 1) + x1) : Int32).toInt = ((σ.1 1 1) : Int32).toInt + (x1 : Int32).toInt := i32_add (by omega) (by omega)
      have : (80 : Int32).toInt = 80 := by decide
      refine ok_le (fun h3 => ?_) (fun h3 => ?_)
      · have := i32_rng x2
        refine ok_bs (sX9_append τ σ x1 x2 hI (by omega) (by omega)) (fun r1 σ2 hr4 => ?_)
        have hr4 : IvC 0 τ σ2 := hr4
        have : 0 ≤ (σ2.1 1 1).toInt ∧ (σ2.1 1 1).toInt ≤ 80 := hr4.1 1 1
        exact ok_some ⟨hr4, by show (-3) ≤ (σ2.1 1 1).toInt; omega, by show (σ2.1 1 1).toInt ≤ 80; omega⟩
      · have : ((-3) : Int32).toInt = (-3) := by decide
        exact ok_some ⟨hI, by show (-3) ≤ ((-3) : Int32).toInt; omega, by show ((-3) : Int32).toInt ≤ 80; omega⟩
    · have : ((-1) : Int32).toInt = (-1) := by decide
      exact ok_some ⟨hI, by show (-3) ≤ ((-1) : Int32).toInt; omega, by show ((-1) : Int32).toInt ≤ 80; omega⟩

theorem sX11_feed (τ : Nat) (σ : S2) (a1 : Int32) (a2 : Int32) (hI : IvC 0 τ σ)   : Ok (fun z => IvC 0 τ z.2 ∧ (-3) ≤ z.1.toInt ∧ z.1.toInt ≤ 80) (fX11_feed τ σ a1 a2) := by
  unfold fX11_feed
  exact sX11_feed_0 τ σ a1 a2 hI

theorem sX11_name_91 (τ : Nat) (σ : S2) (x1 : Int32) (hI : IvC 0 τ σ) (p9000 : (-1) ≤ x1.toInt) (p9001 : x1.toInt ≤ 39)  : Ok (fun z => IvC 0 τ z.2 ∧ (-3) ≤ z.1.toInt ∧ z.1.toInt ≤ 39) (fX11_name_91 τ σ x1) := by
  have hFU : ((FU : Nat) : Int) = 100000 := rfl
  unfold fX11_name_91
  have : (0 : Int32).toInt = 0 := by decide
  refine ok_nm (fun σ1 hs1 => ?_)
  have hI2 : IvC 0 τ σ1 := by rw [hs1]; exact IvC.wF hI (by decide) (by omega) (show 0 ≤ (0 : Int32).toInt by omega) (show (0 : Int32).toInt ≤ 80 by omega)
  exact ok_some ⟨hI2, by show (-3) ≤ x1.toInt; omega, by show x1.toInt ≤ 39; omega⟩

theorem sX11_name_0 (τ : Nat) (σ : S2) (hI : IvC 0 τ σ)   : Ok (fun z => IvC 0 τ z.2 ∧ (-3) ≤ z.1.toInt ∧ z.1.toInt ≤ 39) (fX11_name_0 τ σ) := by
  have hFU : ((FU : Nat) : Int) = 100000 := rfl
  unfold fX11_name_0
  have : 0 ≤ (σ.1 1 1).toInt ∧ (σ.1 1 1).toInt ≤ 80 := hI.1 1 1
  have : (1 : Int32).toInt = 1 := by decide
  refine ok_lt (fun h1 => ?_) (fun h1 => ?_)
  · have : ((-1) : Int32).toInt = (-1) := by decide
    exact ok_some ⟨hI, by show (-3) ≤ ((-1) : Int32).toInt; omega, by show ((-1) : Int32).toInt ≤ 39; omega⟩
  · have : (6 : Int32).toInt = 6 := by decide
    refine ok_le (fun h2 => ?_) (fun h2 => ?_)
    · have : (0 : Int32).toInt = 0 := by decide
      refine ok_bi (sX4_find τ 2 80 σ 0 (σ.1 1 1) hI (by omega) (by omega) (by omega) (by omega) (by omega)) (fun r2 hr3 => ?_)
      obtain ⟨p4, p5⟩ := hr3
      have p4 : (-1) ≤ r2.toInt := p4
      have p5 : r2.toInt ≤ 39 := p5
      have : ((-1) : Int32).toInt = (-1) := by decide
      refine ok_eq (fun h6 => ?_) (fun h6 => ?_)
      · have : 0 ≤ (σ.1 3 3).toInt ∧ (σ.1 3 3).toInt ≤ 40 := hI.1 3 3
        have : (40 : Int32).toInt = 40 := by decide
        refine ok_lt (fun h7 => ?_) (fun h7 => ?_)
        · refine ok_bs (sX4_add τ 2 80 σ 0 (σ.1 1 1) hI (by omega) (by omega) (by omega) (by omega) (by omega) (by first | assumption | exact KeM.rf _ | exact ByC.a2)) (fun r4 σ5 hr8 => ?_)
          obtain ⟨p9, p10, p11⟩ := hr8
          have p9 : IvC 0 τ σ5 := p9
          have p10 : (-1) ≤ r4.toInt := p10
          have p11 : r4.toInt ≤ 39 := p11
          exact sX11_name_91 τ σ5 r4 p9 (by omega) (by omega)
        · have : ((-3) : Int32).toInt = (-3) := by decide
          exact ok_some ⟨hI, by show (-3) ≤ ((-3) : Int32).toInt; omega, by show ((-3) : Int32).toInt ≤ 39; omega⟩
      · exact sX11_name_91 τ σ r2 hI (by omega) (by omega)
    · have : ((-1) : Int32).toInt = (-1) := by decide
      exact ok_some ⟨hI, by show (-3) ≤ ((-1) : Int32).toInt; omega, by show ((-1) : Int32).toInt ≤ 39; omega⟩

theorem sX11_name (τ : Nat) (σ : S2) (hI : IvC 0 τ σ)   : Ok (fun z => IvC 0 τ z.2 ∧ (-3) ≤ z.1.toInt ∧ z.1.toInt ≤ 39) (fX11_name τ σ) := by
  unfold fX11_name
  exact sX11_name_0 τ σ hI

theorem sX11_number_0 (τ : Nat) (σ : S2) (x1 : Int32) (x2 : Int32) (hI : IvC 0 τ σ)   : Ok (fun z => (-1) ≤ z.toInt ∧ z.toInt ≤ 999) (fX11_number_0 τ σ x1 x2) := by
  have hFU : ((FU : Nat) : Int) = 100000 := rfl
  unfold fX11_number_0
  have := i32_rng x1
  refine ok_bi (sX4_has τ σ x1 hI) (fun r1 hr1 => ?_)
  obtain ⟨p2, p3, p4⟩ := hr1
  have p2 : 0 ≤ r1.toInt := p2
  have p3 : r1.toInt ≤ 1 := p3
  have p4 : r1.toInt ≠ 0 → 0 ≤ x1.toInt ∧ x1.toInt < (σ.1 3 3).toInt := p4
  have : 0 ≤ (σ.1 3 3).toInt ∧ (σ.1 3 3).toInt ≤ 40 := hI.1 3 3
  have : (0 : Int32).toInt = 0 := by decide
  refine ok_eq (fun h5 => ?_) (fun h5 => ?_)
  · have : ((-1) : Int32).toInt = (-1) := by decide
    exact ok_some ⟨by show (-1) ≤ ((-1) : Int32).toInt; omega, by show ((-1) : Int32).toInt ≤ 999; omega⟩
  · have := i32_rng x2
    refine ok_bi (sX4_placeOf τ σ x1 x2 hI (by omega) (by omega)) (fun r3 hr6 => ?_)
    obtain ⟨p7, p8⟩ := hr6
    have p7 : 0 ≤ r3.toInt := p7
    have p8 : r3.toInt ≤ 999 := p8
    exact ok_some ⟨by show (-1) ≤ r3.toInt; omega, by show r3.toInt ≤ 999; omega⟩

theorem sX11_number (τ : Nat) (σ : S2) (a1 : Int32) (a2 : Int32) (hI : IvC 0 τ σ)   : Ok (fun z => (-1) ≤ z.toInt ∧ z.toInt ≤ 999) (fX11_number τ σ a1 a2) := by
  unfold fX11_number
  exact sX11_number_0 τ σ a1 a2 hI

theorem sX11_isStrength_0 (τ : Nat) (σ : S2) (x0 : Int32) (hI : IvC 0 τ σ)   : Ok (fun z => 0 ≤ z.toInt ∧ z.toInt ≤ 1 ∧ (z.toInt ≠ 0 → 1 ≤ x0.toInt ∧ x0.toInt ≤ 8)) (fX11_isStrength_0 τ σ x0) := by
  have hFU : ((FU : Nat) : Int) = 100000 := rfl
  unfold fX11_isStrength_0
  have := i32_rng x0
  have : (1 : Int32).toInt = 1 := by decide
  refine ok_lt (fun h1 => ?_) (fun h1 => ?_)
  · have : (0 : Int32).toInt = 0 := by decide
    exact ok_some ⟨by show 0 ≤ (0 : Int32).toInt; omega, by show (0 : Int32).toInt ≤ 1; omega, by show (0 : Int32).toInt ≠ 0 → 1 ≤ x0.toInt ∧ x0.toInt ≤ 8; omega⟩
  · have : (8 : Int32).toInt = 8 := by decide
    refine ok_lt (fun h2 => ?_) (fun h2 => ?_)
    · have : (0 : Int32).toInt = 0 := by decide
      exact ok_some ⟨by show 0 ≤ (0 : Int32).toInt; omega, by show (0 : Int32).toInt ≤ 1; omega, by show (0 : Int32).toInt ≠ 0 → 1 ≤ x0.toInt ∧ x0.toInt ≤ 8; omega⟩
    · exact ok_some ⟨by show 0 ≤ (1 : Int32).toInt; omega, by show (1 : Int32).toInt ≤ 1; omega, by show (1 : Int32).toInt ≠ 0 → 1 ≤ x0.toInt ∧ x0.toInt ≤ 8; omega⟩

theorem sX11_isStrength (τ : Nat) (σ : S2) (a0 : Int32) (hI : IvC 0 τ σ)   : Ok (fun z => 0 ≤ z.toInt ∧ z.toInt ≤ 1 ∧ (z.toInt ≠ 0 → 1 ≤ a0.toInt ∧ a0.toInt ≤ 8)) (fX11_isStrength τ σ a0) := by
  unfold fX11_isStrength
  exact sX11_isStrength_0 τ σ a0 hI

theorem sX11_keeper_0 (τ : Nat) (σ : S2) (x1 : Int32) (x2 : Int32) (hI : IvC 0 τ σ)   : Ok (fun z => IvC 0 τ z.2 ∧ (-3) ≤ z.1.toInt ∧ z.1.toInt ≤ 11) (fX11_keeper_0 τ σ x1 x2) := by
  have hFU : ((FU : Nat) : Int) = 100000 := rfl
  unfold fX11_keeper_0
  have := i32_rng x1
  have : (0 : Int32).toInt = 0 := by decide
  refine ok_lt (fun h1 => ?_) (fun h1 => ?_)
  · have : ((-1) : Int32).toInt = (-1) := by decide
    exact ok_some ⟨hI, by show (-3) ≤ ((-1) : Int32).toInt; omega, by show ((-1) : Int32).toInt ≤ 11; omega⟩
  · have : (5 : Int32).toInt = 5 := by decide
    refine ok_lt (fun h2 => ?_) (fun h2 => ?_)
    · have : ((-1) : Int32).toInt = (-1) := by decide
      exact ok_some ⟨hI, by show (-3) ≤ ((-1) : Int32).toInt; omega, by show ((-1) : Int32).toInt ≤ 11; omega⟩
    · have := i32_rng x2
      refine ok_bi (sX11_isStrength τ σ x2 hI) (fun r1 hr3 => ?_)
      obtain ⟨p4, p5, p6⟩ := hr3
      have p4 : 0 ≤ r1.toInt := p4
      have p5 : r1.toInt ≤ 1 := p5
      have p6 : r1.toInt ≠ 0 → 1 ≤ x2.toInt ∧ x2.toInt ≤ 8 := p6
      refine ok_eq (fun h7 => ?_) (fun h7 => ?_)
      · have : ((-1) : Int32).toInt = (-1) := by decide
        exact ok_some ⟨hI, by show (-3) ≤ ((-1) : Int32).toInt; omega, by show ((-1) : Int32).toInt ≤ 11; omega⟩
      · have : 0 ≤ (σ.1 7 5).toInt ∧ (σ.1 7 5).toInt ≤ 12 := hI.1 7 5
        have : (12 : Int32).toInt = 12 := by decide
        refine ok_lt (fun h8 => ?_) (fun h8 => ?_)
        · refine ok_bs (sX2_add τ σ x1 x2 hI (by omega) (by omega) (by omega) (by omega) (by omega) (by omega)) (fun r3 σ4 hr9 => ?_)
          obtain ⟨p10, p11, p12⟩ := hr9
          have p10 : IvC 0 τ σ4 := p10
          have p11 : 0 ≤ r3.toInt := p11
          have p12 : r3.toInt ≤ 11 := p12
          exact ok_some ⟨p10, by show (-3) ≤ r3.toInt; omega, by show r3.toInt ≤ 11; omega⟩
        · have : ((-3) : Int32).toInt = (-3) := by decide
          exact ok_some ⟨hI, by show (-3) ≤ ((-3) : Int32).toInt; omega, by show ((-3) : Int32).toInt ≤ 11; omega⟩

theorem sX11_keeper (τ : Nat) (σ : S2) (a1 : Int32) (a2 : Int32) (hI : IvC 0 τ σ)   : Ok (fun z => IvC 0 τ z.2 ∧ (-3) ≤ z.1.toInt ∧ z.1.toInt ≤ 11) (fX11_keeper τ σ a1 a2) := by
  unfold fX11_keeper
  exact sX11_keeper_0 τ σ a1 a2 hI

theorem sX11_isKind_0 (τ : Nat) (σ : S2) (x0 : Int32) (hI : IvC 0 τ σ)   : Ok (fun z => 0 ≤ z.toInt ∧ z.toInt ≤ 1 ∧ (z.toInt ≠ 0 → 0 ≤ x0.toInt ∧ x0.toInt ≤ 6)) (fX11_isKind_0 τ σ x0) := by
  have hFU : ((FU : Nat) : Int) = 100000 := rfl
  unfold fX11_isKind_0
  have := i32_rng x0
  have : (0 : Int32).toInt = 0 := by decide
  refine ok_lt (fun h1 => ?_) (fun h1 => ?_)
  · exact ok_some ⟨by show 0 ≤ (0 : Int32).toInt; omega, by show (0 : Int32).toInt ≤ 1; omega, by show (0 : Int32).toInt ≠ 0 → 0 ≤ x0.toInt ∧ x0.toInt ≤ 6; omega⟩
  · have : (6 : Int32).toInt = 6 := by decide
    refine ok_lt (fun h2 => ?_) (fun h2 => ?_)
    · exact ok_some ⟨by show 0 ≤ (0 : Int32).toInt; omega, by show (0 : Int32).toInt ≤ 1; omega, by show (0 : Int32).toInt ≠ 0 → 0 ≤ x0.toInt ∧ x0.toInt ≤ 6; omega⟩
    · have : (1 : Int32).toInt = 1 := by decide
      exact ok_some ⟨by show 0 ≤ (1 : Int32).toInt; omega, by show (1 : Int32).toInt ≤ 1; omega, by show (1 : Int32).toInt ≠ 0 → 0 ≤ x0.toInt ∧ x0.toInt ≤ 6; omega⟩

theorem sX11_isKind (τ : Nat) (σ : S2) (a0 : Int32) (hI : IvC 0 τ σ)   : Ok (fun z => 0 ≤ z.toInt ∧ z.toInt ≤ 1 ∧ (z.toInt ≠ 0 → 0 ≤ a0.toInt ∧ a0.toInt ≤ 6)) (fX11_isKind τ σ a0) := by
  unfold fX11_isKind
  exact sX11_isKind_0 τ σ a0 hI

theorem sX11_become_0 (τ : Nat) (σ : S2) (x1 : Int32) (x2 : Int32) (hI : IvC 0 τ σ)   : Ok (fun z => IvC 0 τ z.2 ∧ (-1) ≤ z.1.toInt ∧ z.1.toInt ≤ 6) (fX11_become_0 τ σ x1 x2) := by
  have hFU : ((FU : Nat) : Int) = 100000 := rfl
  unfold fX11_become_0
  have := i32_rng x1
  refine ok_bi (sX2_has τ σ x1 hI) (fun r1 hr1 => ?_)
  obtain ⟨p2, p3, p4⟩ := hr1
  have p2 : 0 ≤ r1.toInt := p2
  have p3 : r1.toInt ≤ 1 := p3
  have p4 : r1.toInt ≠ 0 → 0 ≤ x1.toInt ∧ x1.toInt < (σ.1 7 5).toInt := p4
  have : 0 ≤ (σ.1 7 5).toInt ∧ (σ.1 7 5).toInt ≤ 12 := hI.1 7 5
  have : (0 : Int32).toInt = 0 := by decide
  refine ok_eq (fun h5 => ?_) (fun h5 => ?_)
  · have : ((-1) : Int32).toInt = (-1) := by decide
    exact ok_some ⟨hI, by show (-1) ≤ ((-1) : Int32).toInt; omega, by show ((-1) : Int32).toInt ≤ 6; omega⟩
  · have := i32_rng x2
    refine ok_bi (sX11_isKind τ σ x2 hI) (fun r3 hr6 => ?_)
    obtain ⟨p7, p8, p9⟩ := hr6
    have p7 : 0 ≤ r3.toInt := p7
    have p8 : r3.toInt ≤ 1 := p8
    have p9 : r3.toInt ≠ 0 → 0 ≤ x2.toInt ∧ x2.toInt ≤ 6 := p9
    refine ok_eq (fun h10 => ?_) (fun h10 => ?_)
    · have : ((-1) : Int32).toInt = (-1) := by decide
      exact ok_some ⟨hI, by show (-1) ≤ ((-1) : Int32).toInt; omega, by show ((-1) : Int32).toInt ≤ 6; omega⟩
    · refine ok_ck (by omega) (by omega) ?_
      have : 0 ≤ (σ.1 8 (Int32.toNatClampNeg x1)).toInt ∧ (σ.1 8 (Int32.toNatClampNeg x1)).toInt ≤ 6 := hI.1 8 (Int32.toNatClampNeg x1)
      refine ok_nmI (fun v5 hv5 he11 => ?_)
      refine ok_ck (by omega) (by omega) ?_
      refine ok_nm (fun σ6 hs12 => ?_)
      have hI13 : IvC 0 τ σ6 := by rw [hs12]; exact IvC.wF hI (by decide) (by omega) (show 0 ≤ (x2 : Int32).toInt by omega) (show (x2 : Int32).toInt ≤ 6 by omega)
      have : (4 : Int32).toInt = 4 := by decide
      refine ok_eq (fun h14 => ?_) (fun h14 => ?_)
      · refine ok_eq (fun h15 => ?_) (fun h15 => ?_)
        · exact ok_some ⟨hI13, by show (-1) ≤ v5.toInt; omega, by show v5.toInt ≤ 6; omega⟩
        · refine ok_bs (sX6_handBack τ σ6 x1 hI13 (by omega) (by omega)) (fun r7 σ8 hr16 => ?_)
          have hr16 : IvC 0 τ σ8 := hr16
          exact ok_some ⟨hr16, by show (-1) ≤ v5.toInt; omega, by show v5.toInt ≤ 6; omega⟩
      · exact ok_some ⟨hI13, by show (-1) ≤ v5.toInt; omega, by show v5.toInt ≤ 6; omega⟩

theorem sX11_become (τ : Nat) (σ : S2) (a1 : Int32) (a2 : Int32) (hI : IvC 0 τ σ)   : Ok (fun z => IvC 0 τ z.2 ∧ (-1) ≤ z.1.toInt ∧ z.1.toInt ≤ 6) (fX11_become τ σ a1 a2) := by
  unfold fX11_become
  exact sX11_become_0 τ σ a1 a2 hI

theorem sX11_strength_0 (τ : Nat) (σ : S2) (x1 : Int32) (x2 : Int32) (hI : IvC 0 τ σ)   : Ok (fun z => IvC 0 τ z.2 ∧ (-1) ≤ z.1.toInt ∧ z.1.toInt ≤ 8) (fX11_strength_0 τ σ x1 x2) := by
  have hFU : ((FU : Nat) : Int) = 100000 := rfl
  unfold fX11_strength_0
  have := i32_rng x1
  refine ok_bi (sX2_has τ σ x1 hI) (fun r1 hr1 => ?_)
  obtain ⟨p2, p3, p4⟩ := hr1
  have p2 : 0 ≤ r1.toInt := p2
  have p3 : r1.toInt ≤ 1 := p3
  have p4 : r1.toInt ≠ 0 → 0 ≤ x1.toInt ∧ x1.toInt < (σ.1 7 5).toInt := p4
  have : 0 ≤ (σ.1 7 5).toInt ∧ (σ.1 7 5).toInt ≤ 12 := hI.1 7 5
  have : (0 : Int32).toInt = 0 := by decide
  refine ok_eq (fun h5 => ?_) (fun h5 => ?_)
  · have : ((-1) : Int32).toInt = (-1) := by decide
    exact ok_some ⟨hI, by show (-1) ≤ ((-1) : Int32).toInt; omega, by show ((-1) : Int32).toInt ≤ 8; omega⟩
  · have := i32_rng x2
    refine ok_bi (sX11_isStrength τ σ x2 hI) (fun r3 hr6 => ?_)
    obtain ⟨p7, p8, p9⟩ := hr6
    have p7 : 0 ≤ r3.toInt := p7
    have p8 : r3.toInt ≤ 1 := p8
    have p9 : r3.toInt ≠ 0 → 1 ≤ x2.toInt ∧ x2.toInt ≤ 8 := p9
    refine ok_eq (fun h10 => ?_) (fun h10 => ?_)
    · have : ((-1) : Int32).toInt = (-1) := by decide
      exact ok_some ⟨hI, by show (-1) ≤ ((-1) : Int32).toInt; omega, by show ((-1) : Int32).toInt ≤ 8; omega⟩
    · refine ok_ck (by omega) (by omega) ?_
      have : 0 ≤ (σ.1 10 (Int32.toNatClampNeg x1)).toInt ∧ (σ.1 10 (Int32.toNatClampNeg x1)).toInt ≤ 8 := hI.1 10 (Int32.toNatClampNeg x1)
      refine ok_nmI (fun v5 hv5 he11 => ?_)
      refine ok_ck (by omega) (by omega) ?_
      refine ok_nm (fun σ6 hs12 => ?_)
      have hI13 : IvC 0 τ σ6 := by rw [hs12]; exact IvC.wF hI (by decide) (by omega) (show 0 ≤ (x2 : Int32).toInt by omega) (show (x2 : Int32).toInt ≤ 8 by omega)
      exact ok_some ⟨hI13, by show (-1) ≤ v5.toInt; omega, by show v5.toInt ≤ 8; omega⟩

theorem sX11_strength (τ : Nat) (σ : S2) (a1 : Int32) (a2 : Int32) (hI : IvC 0 τ σ)   : Ok (fun z => IvC 0 τ z.2 ∧ (-1) ≤ z.1.toInt ∧ z.1.toInt ≤ 8) (fX11_strength τ σ a1 a2) := by
  unfold fX11_strength
  exact sX11_strength_0 τ σ a1 a2 hI

theorem sX11_ofKeeper_0 (τ : Nat) (σ : S2) (x1 : Int32) (x2 : Int32) (hI : IvC 0 τ σ)   : Ok (fun z => True) (fX11_ofKeeper_0 τ σ x1 x2) := by
  have hFU : ((FU : Nat) : Int) = 100000 := rfl
  unfold fX11_ofKeeper_0
  have := i32_rng x1
  refine ok_bi (sX2_has τ σ x1 hI) (fun r1 hr1 => ?_)
  obtain ⟨p2, p3, p4⟩ := hr1
  have p2 : 0 ≤ r1.toInt := p2
  have p3 : r1.toInt ≤ 1 := p3
  have p4 : r1.toInt ≠ 0 → 0 ≤ x1.toInt ∧ x1.toInt < (σ.1 7 5).toInt := p4
  have : 0 ≤ (σ.1 7 5).toInt ∧ (σ.1 7 5).toInt ≤ 12 := hI.1 7 5
  have : (0 : Int32).toInt = 0 := by decide
  refine ok_eq (fun h5 => ?_) (fun h5 => ?_)
  · have : ((-2000000000) : Int32).toInt = (-2000000000) := by decide
    exact ok_some trivial
  · have := i32_rng x2
    refine ok_eq (fun h6 => ?_) (fun h6 => ?_)
    · refine ok_ck (by omega) (by omega) ?_
      have : 0 ≤ (σ.1 8 (Int32.toNatClampNeg x1)).toInt ∧ (σ.1 8 (Int32.toNatClampNeg x1)).toInt ≤ 6 := hI.1 8 (Int32.toNatClampNeg x1)
      refine ok_nmI (fun v4 hv4 he7 => ?_)
      exact ok_some trivial
    · have : (1 : Int32).toInt = 1 := by decide
      refine ok_eq (fun h8 => ?_) (fun h8 => ?_)
      · refine ok_ck (by omega) (by omega) ?_
        have : 0 ≤ (σ.1 9 (Int32.toNatClampNeg x1)).toInt ∧ (σ.1 9 (Int32.toNatClampNeg x1)).toInt ≤ 5 := hI.1 9 (Int32.toNatClampNeg x1)
        refine ok_nmI (fun v6 hv6 he9 => ?_)
        exact ok_some trivial
      · have : (2 : Int32).toInt = 2 := by decide
        refine ok_eq (fun h10 => ?_) (fun h10 => ?_)
        · refine ok_ck (by omega) (by omega) ?_
          have : 0 ≤ (σ.1 10 (Int32.toNatClampNeg x1)).toInt ∧ (σ.1 10 (Int32.toNatClampNeg x1)).toInt ≤ 8 := hI.1 10 (Int32.toNatClampNeg x1)
          refine ok_nmI (fun v8 hv8 he11 => ?_)
          exact ok_some trivial
        · have : (3 : Int32).toInt = 3 := by decide
          refine ok_eq (fun h12 => ?_) (fun h12 => ?_)
          · refine ok_bi (sX2_counting τ σ x1 hI (by omega) (by omega)) (fun r10 hr13 => ?_)
            obtain ⟨p14, p15⟩ := hr13
            have p14 : 0 ≤ r10.toInt := p14
            have p15 : r10.toInt ≤ 16 := p15
            exact ok_some trivial
          · have : (4 : Int32).toInt = 4 := by decide
            refine ok_eq (fun h16 => ?_) (fun h16 => ?_)
            · refine ok_ck (by omega) (by omega) ?_
              have : (-1) ≤ (σ.1 11 (Int32.toNatClampNeg x1)).toInt ∧ (σ.1 11 (Int32.toNatClampNeg x1)).toInt ≤ 9 := hI.1 11 (Int32.toNatClampNeg x1)
              refine ok_nmI (fun v13 hv13 he17 => ?_)
              exact ok_some trivial
            · have : (5 : Int32).toInt = 5 := by decide
              refine ok_eq (fun h18 => ?_) (fun h18 => ?_)
              · refine ok_bi (sX6_copiesOn τ σ x1 hI (by omega) (by omega)) (fun r15 hr19 => ?_)
                have := i32_rng r15
                exact ok_some trivial
              · have : (6 : Int32).toInt = 6 := by decide
                refine ok_eq (fun h20 => ?_) (fun h20 => ?_)
                · refine ok_bi (sX6_keptBy τ σ x1 hI (by omega) (by omega)) (fun r18 hr21 => ?_)
                  have := i32_rng r18
                  exact ok_some trivial
                · have : (7 : Int32).toInt = 7 := by decide
                  refine ok_eq (fun h22 => ?_) (fun h22 => ?_)
                  · refine ok_ck (by omega) (by omega) ?_
                    have : 0 ≤ (σ.1 12 (Int32.toNatClampNeg x1)).toInt ∧ (σ.1 12 (Int32.toNatClampNeg x1)).toInt ≤ 1 := hI.1 12 (Int32.toNatClampNeg x1)
                    refine ok_nmI (fun v21 hv21 he23 => ?_)
                    refine ok_eq (fun h24 => ?_) (fun h24 => ?_)
                    · exact ok_some trivial
                    · exact ok_some trivial
                  · have : ((-2000000000) : Int32).toInt = (-2000000000) := by decide
                    exact ok_some trivial

theorem sX11_ofKeeper (τ : Nat) (σ : S2) (a1 : Int32) (a2 : Int32) (hI : IvC 0 τ σ)   : Ok (fun z => True) (fX11_ofKeeper τ σ a1 a2) := by
  unfold fX11_ofKeeper
  exact sX11_ofKeeper_0 τ σ a1 a2 hI

theorem sX11_ofTable_0 (τ : Nat) (σ : S2) (x1 : Int32) (x2 : Int32) (hI : IvC 0 τ σ)   : Ok (fun z => IvC 0 τ z.2) (fX11_ofTable_0 τ σ x1 x2) := by
  have hFU : ((FU : Nat) : Int) = 100000 := rfl
  unfold fX11_ofTable_0
  have := i32_rng x1
  refine ok_bt hI ?_ (fun b2 hb1 => ?_)
  · have : ((-1) : Int32).toInt = (-1) := by decide
    exact ok_some hI
  · have := i32_rng x2
    have : (0 : Int32).toInt = 0 := by decide
    refine ok_eq (fun h2 => ?_) (fun h2 => ?_)
    · have := i32_rng (σ.1 (182 + (6 * b2)) 0)
      exact ok_some hI
    · have : (1 : Int32).toInt = 1 := by decide
      refine ok_eq (fun h3 => ?_) (fun h3 => ?_)
      · have : 0 ≤ (σ.1 (182 + (6 * b2)) 5).toInt ∧ (σ.1 (182 + (6 * b2)) 5).toInt ≤ 768 := hI.1.t0 b2 5
        exact ok_some hI
      · have : (2 : Int32).toInt = 2 := by decide
        refine ok_eq (fun h4 => ?_) (fun h4 => ?_)
        · have : 1 ≤ (σ.1 (182 + (6 * b2)) 2).toInt ∧ (σ.1 (182 + (6 * b2)) 2).toInt ≤ 4 := hI.1.t0 b2 2
          exact ok_some hI
        · have : (3 : Int32).toInt = 3 := by decide
          refine ok_eq (fun h5 => ?_) (fun h5 => ?_)
          · have : 1 ≤ (σ.1 (182 + (6 * b2)) 3).toInt ∧ (σ.1 (182 + (6 * b2)) 3).toInt ≤ 4 := hI.1.t0 b2 3
            exact ok_some hI
          · have : (4 : Int32).toInt = 4 := by decide
            refine ok_eq (fun h6 => ?_) (fun h6 => ?_)
            · have : 0 ≤ (σ.1 (182 + (6 * b2)) 4).toInt ∧ (σ.1 (182 + (6 * b2)) 4).toInt ≤ 2 := hI.1.t0 b2 4
              exact ok_some hI
            · have : (5 : Int32).toInt = 5 := by decide
              refine ok_eq (fun h7 => ?_) (fun h7 => ?_)
              · refine ok_bs (sX8_unevenness τ b2 σ hI) (fun r9 σ10 hr8 => ?_)
                have hr8 : IvC 0 τ σ10 := hr8
                have := i32_rng r9
                exact ok_some hr8
              · have : ((-1) : Int32).toInt = (-1) := by decide
                exact ok_some hI

theorem sX11_ofTable (τ : Nat) (σ : S2) (a1 : Int32) (a2 : Int32) (hI : IvC 0 τ σ)   : Ok (fun z => IvC 0 τ z.2) (fX11_ofTable τ σ a1 a2) := by
  unfold fX11_ofTable
  exact sX11_ofTable_0 τ σ a1 a2 hI

theorem sX11_isPlace_0 (τ : Nat) (σ : S2) (x0 : Int32) (hI : IvC 0 τ σ)   : Ok (fun z => 0 ≤ z.toInt ∧ z.toInt ≤ 1 ∧ (z.toInt ≠ 0 → 0 ≤ x0.toInt ∧ x0.toInt ≤ 999)) (fX11_isPlace_0 τ σ x0) := by
  have hFU : ((FU : Nat) : Int) = 100000 := rfl
  unfold fX11_isPlace_0
  have := i32_rng x0
  have : (0 : Int32).toInt = 0 := by decide
  refine ok_lt (fun h1 => ?_) (fun h1 => ?_)
  · exact ok_some ⟨by show 0 ≤ (0 : Int32).toInt; omega, by show (0 : Int32).toInt ≤ 1; omega, by show (0 : Int32).toInt ≠ 0 → 0 ≤ x0.toInt ∧ x0.toInt ≤ 999; omega⟩
  · have : (1000 : Int32).toInt = 1000 := by decide
    refine ok_le (fun h2 => ?_) (fun h2 => ?_)
    · exact ok_some ⟨by show 0 ≤ (0 : Int32).toInt; omega, by show (0 : Int32).toInt ≤ 1; omega, by show (0 : Int32).toInt ≠ 0 → 0 ≤ x0.toInt ∧ x0.toInt ≤ 999; omega⟩
    · have : (1 : Int32).toInt = 1 := by decide
      exact ok_some ⟨by show 0 ≤ (1 : Int32).toInt; omega, by show (1 : Int32).toInt ≤ 1; omega, by show (1 : Int32).toInt ≠ 0 → 0 ≤ x0.toInt ∧ x0.toInt ≤ 999; omega⟩

theorem sX11_isPlace (τ : Nat) (σ : S2) (a0 : Int32) (hI : IvC 0 τ σ)   : Ok (fun z => 0 ≤ z.toInt ∧ z.toInt ≤ 1 ∧ (z.toInt ≠ 0 → 0 ≤ a0.toInt ∧ a0.toInt ≤ 999)) (fX11_isPlace τ σ a0) := by
  unfold fX11_isPlace
  exact sX11_isPlace_0 τ σ a0 hI

theorem sX11_seat_0 (τ : Nat) (σ : S2) (x1 : Int32) (x2 : Int32) (hI : IvC 0 τ σ)   : Ok (fun z => (-2) ≤ z.toInt ∧ z.toInt ≤ 11) (fX11_seat_0 τ σ x1 x2) := by
  have hFU : ((FU : Nat) : Int) = 100000 := rfl
  unfold fX11_seat_0
  have := i32_rng x1
  refine ok_bt hI ?_ (fun b2 hb1 => ?_)
  · have : ((-1) : Int32).toInt = (-1) := by decide
    exact ok_some ⟨by show (-2) ≤ ((-1) : Int32).toInt; omega, by show ((-1) : Int32).toInt ≤ 11; omega⟩
  · have := i32_rng x2
    refine ok_bi (sX11_isPlace τ σ x2 hI) (fun r3 hr2 => ?_)
    obtain ⟨p3, p4, p5⟩ := hr2
    have p3 : 0 ≤ r3.toInt := p3
    have p4 : r3.toInt ≤ 1 := p4
    have p5 : r3.toInt ≠ 0 → 0 ≤ x2.toInt ∧ x2.toInt ≤ 999 := p5
    have : (0 : Int32).toInt = 0 := by decide
    refine ok_eq (fun h6 => ?_) (fun h6 => ?_)
    · have : ((-1) : Int32).toInt = (-1) := by decide
      exact ok_some ⟨by show (-2) ≤ ((-1) : Int32).toInt; omega, by show ((-1) : Int32).toInt ≤ 11; omega⟩
    · refine ok_ck (by omega) (by omega) ?_
      have : (-1) ≤ (σ.1 ((182 + (6 * b2)) + 4) (Int32.toNatClampNeg x2)).toInt ∧ (σ.1 ((182 + (6 * b2)) + 4) (Int32.toNatClampNeg x2)).toInt ≤ 11 := hI.1.t b2 4 (Int32.toNatClampNeg x2) (by decide)
      refine ok_nmI (fun v5 hv5 he7 => ?_)
      have : ((-1) : Int32).toInt = (-1) := by decide
      refine ok_eq (fun h8 => ?_) (fun h8 => ?_)
      · have : ((-2) : Int32).toInt = (-2) := by decide
        exact ok_some ⟨by show (-2) ≤ ((-2) : Int32).toInt; omega, by show ((-2) : Int32).toInt ≤ 11; omega⟩
      · refine ok_ck (by omega) (by omega) ?_
        refine ok_nmI (fun v6 hv6 he9 => ?_)
        exact ok_some ⟨by show (-2) ≤ v6.toInt; omega, by show v6.toInt ≤ 11; omega⟩

theorem sX11_seat (τ : Nat) (σ : S2) (a1 : Int32) (a2 : Int32) (hI : IvC 0 τ σ)   : Ok (fun z => (-2) ≤ z.toInt ∧ z.toInt ≤ 11) (fX11_seat τ σ a1 a2) := by
  unfold fX11_seat
  exact sX11_seat_0 τ σ a1 a2 hI

theorem sX11_picked_0 (τ : Nat) (σ : S2) (x1 : Int32) (x2 : Int32) (x3 : Int32) (hI : IvC 0 τ σ)   : Ok (fun z => IvC 0 τ z.2 ∧ (-1) ≤ z.1.toInt ∧ z.1.toInt ≤ 11) (fX11_picked_0 τ σ x1 x2 x3) := by
  have hFU : ((FU : Nat) : Int) = 100000 := rfl
  unfold fX11_picked_0
  have := i32_rng x1
  refine ok_bt hI ?_ (fun b2 hb1 => ?_)
  · have : ((-1) : Int32).toInt = (-1) := by decide
    exact ok_some ⟨hI, by show (-1) ≤ ((-1) : Int32).toInt; omega, by show ((-1) : Int32).toInt ≤ 11; omega⟩
  · have := i32_rng x2
    refine ok_bi (sX11_isPlace τ σ x2 hI) (fun r3 hr2 => ?_)
    obtain ⟨p3, p4, p5⟩ := hr2
    have p3 : 0 ≤ r3.toInt := p3
    have p4 : r3.toInt ≤ 1 := p4
    have p5 : r3.toInt ≠ 0 → 0 ≤ x2.toInt ∧ x2.toInt ≤ 999 := p5
    have : (0 : Int32).toInt = 0 := by decide
    refine ok_eq (fun h6 => ?_) (fun h6 => ?_)
    · have : ((-1) : Int32).toInt = (-1) := by decide
      exact ok_some ⟨hI, by show (-1) ≤ ((-1) : Int32).toInt; omega, by show ((-1) : Int32).toInt ≤ 11; omega⟩
    · have := i32_rng x3
      refine ok_le (fun h7 => ?_) (fun h7 => ?_)
      · refine ok_bs (sX1_pick τ b2 σ x2 hI (by omega) (by omega)) (fun r5 σ6 hr8 => ?_)
        have hr8 : IvC 0 τ σ6 := hr8
        have : 0 ≤ (σ6.1 14 2).toInt ∧ (σ6.1 14 2).toInt ≤ 12 := hr8.1 14 2
        refine ok_le (fun h10 => ?_) (fun h10 => ?_)
        · have : ((-1) : Int32).toInt = (-1) := by decide
          exact ok_some ⟨hr8, by show (-1) ≤ ((-1) : Int32).toInt; omega, by show ((-1) : Int32).toInt ≤ 11; omega⟩
        · refine ok_ck (by omega) (by omega) ?_
          have : 0 ≤ (σ6.1 15 (Int32.toNatClampNeg x3)).toInt ∧ (σ6.1 15 (Int32.toNatClampNeg x3)).toInt ≤ 11 := hr8.1 15 (Int32.toNatClampNeg x3)
          refine ok_nmI (fun v8 hv8 he11 => ?_)
          exact ok_some ⟨hr8, by show (-1) ≤ v8.toInt; omega, by show v8.toInt ≤ 11; omega⟩
      · have : ((-1) : Int32).toInt = (-1) := by decide
        exact ok_some ⟨hI, by show (-1) ≤ ((-1) : Int32).toInt; omega, by show ((-1) : Int32).toInt ≤ 11; omega⟩

theorem sX11_picked (τ : Nat) (σ : S2) (a1 : Int32) (a2 : Int32) (a3 : Int32) (hI : IvC 0 τ σ)   : Ok (fun z => IvC 0 τ z.2 ∧ (-1) ≤ z.1.toInt ∧ z.1.toInt ≤ 11) (fX11_picked τ σ a1 a2 a3) := by
  unfold fX11_picked
  exact sX11_picked_0 τ σ a1 a2 a3 hI

theorem sX11_keeperOf_0 (τ : Nat) (σ : S2) (x1 : Int32) (x2 : Int32) (x3 : Int32) (hI : IvC 0 τ σ)   : Ok (fun z => IvC 0 τ z.2 ∧ (-1) ≤ z.1.toInt ∧ z.1.toInt ≤ 11) (fX11_keeperOf_0 τ σ x1 x2 x3) := by
  have hFU : ((FU : Nat) : Int) = 100000 := rfl
  unfold fX11_keeperOf_0
  have := i32_rng x1
  refine ok_bt hI ?_ (fun b2 hb1 => ?_)
  · have : ((-1) : Int32).toInt = (-1) := by decide
    exact ok_some ⟨hI, by show (-1) ≤ ((-1) : Int32).toInt; omega, by show ((-1) : Int32).toInt ≤ 11; omega⟩
  · have := i32_rng x2
    refine ok_bi (sX4_has τ σ x2 hI) (fun r3 hr2 => ?_)
    obtain ⟨p3, p4, p5⟩ := hr2
    have p3 : 0 ≤ r3.toInt := p3
    have p4 : r3.toInt ≤ 1 := p4
    have p5 : r3.toInt ≠ 0 → 0 ≤ x2.toInt ∧ x2.toInt < (σ.1 3 3).toInt := p5
    have : 0 ≤ (σ.1 3 3).toInt ∧ (σ.1 3 3).toInt ≤ 40 := hI.1 3 3
    have : (0 : Int32).toInt = 0 := by decide
    refine ok_eq (fun h6 => ?_) (fun h6 => ?_)
    · have : ((-1) : Int32).toInt = (-1) := by decide
      exact ok_some ⟨hI, by show (-1) ≤ ((-1) : Int32).toInt; omega, by show ((-1) : Int32).toInt ≤ 11; omega⟩
    · have : ((-1) : Int32).toInt = (-1) := by decide
      have := i32_rng x3
      refine ok_le (fun h7 => ?_) (fun h7 => ?_)
      · have := i32_rng (σ.1 (182 + (6 * b2)) 1)
        refine ok_bi (sX4_placeOf τ σ x2 (σ.1 (182 + (6 * b2)) 1) hI (by omega) (by omega)) (fun r5 hr8 => ?_)
        obtain ⟨p9, p10⟩ := hr8
        have p9 : 0 ≤ r5.toInt := p9
        have p10 : r5.toInt ≤ 999 := p10
        refine ok_bs (sX1_choose τ b2 σ r5 hI (by omega) (by omega)) (fun r7 σ8 hr11 => ?_)
        have hr11 : IvC 0 τ σ8 := hr11
        refine ok_eq (fun h13 => ?_) (fun h13 => ?_)
        · have : 0 ≤ (σ8.1 14 3).toInt ∧ (σ8.1 14 3).toInt ≤ 4 := hr11.1 14 3
          exact ok_some ⟨hr11, by show (-1) ≤ (σ8.1 14 3).toInt; omega, by show (σ8.1 14 3).toInt ≤ 11; omega⟩
        · have : 0 ≤ (σ8.1 14 3).toInt ∧ (σ8.1 14 3).toInt ≤ 4 := hr11.1 14 3
          refine ok_le (fun h14 => ?_) (fun h14 => ?_)
          · exact ok_some ⟨hr11, by show (-1) ≤ ((-1) : Int32).toInt; omega, by show ((-1) : Int32).toInt ≤ 11; omega⟩
          · refine ok_ck (by omega) (by omega) ?_
            have : 0 ≤ (σ8.1 16 (Int32.toNatClampNeg x3)).toInt ∧ (σ8.1 16 (Int32.toNatClampNeg x3)).toInt ≤ 11 := hr11.1 16 (Int32.toNatClampNeg x3)
            refine ok_nmI (fun v10 hv10 he15 => ?_)
            exact ok_some ⟨hr11, by show (-1) ≤ v10.toInt; omega, by show v10.toInt ≤ 11; omega⟩
      · exact ok_some ⟨hI, by show (-1) ≤ ((-1) : Int32).toInt; omega, by show ((-1) : Int32).toInt ≤ 11; omega⟩

theorem sX11_keeperOf (τ : Nat) (σ : S2) (a1 : Int32) (a2 : Int32) (a3 : Int32) (hI : IvC 0 τ σ)   : Ok (fun z => IvC 0 τ z.2 ∧ (-1) ≤ z.1.toInt ∧ z.1.toInt ≤ 11) (fX11_keeperOf τ σ a1 a2 a3) := by
  unfold fX11_keeperOf
  exact sX11_keeperOf_0 τ σ a1 a2 a3 hI

theorem sX11_tooFew_70 (τ : Nat) (k17 : S2 → Nat → Int32 → Int32 → Option (Int32 × S2)) (σ : S2) (x2 : Nat) (x3 : Int32) (x4 : Int32) (hI : IvC 0 τ σ) (p9000 : 0 ≤ x4.toInt) (p9001 : x4.toInt ≤ 39) (hk17 : ∀ (y0 : S2) (y1 : Nat) (y2 : Int32) (y3 : Int32), IvC 0 τ y0 → 0 ≤ y3.toInt → y3.toInt ≤ 40 → x4.toInt + 1 ≤ y3.toInt → Ok (fun z => IvC 0 τ z.2) (k17 y0 y1 y2 y3)) : Ok (fun z => IvC 0 τ z.2) (fX11_tooFew_70 τ k17 σ x2 x3 x4) := by
  have hFU : ((FU : Nat) : Int) = 100000 := rfl
  unfold fX11_tooFew_70
  have : (1 : Int32).toInt = 1 := by decide
  have : ((x4 + 1) : Int32).toInt = (x4 : Int32).toInt + (1 : Int32).toInt := i32_add (by omega) (by omega)
  refine ok_nmI (fun v1 hv1 he1 => ?_)
  have := i32_rng x3
  exact hk17 σ x2 x3 v1 hI (by omega) (by omega) (by omega)

theorem sX11_tooFew_17 (τ : Nat) : ∀ (n : Nat) (σ : S2) (x2 : Nat) (x3 : Int32) (x4 : Int32), IvC 0 τ σ → 0 ≤ x4.toInt → x4.toInt ≤ 40 → 40 - x4.toInt < (n : Int) → Ok (fun z => IvC 0 τ z.2) (fX11_tooFew_17 τ n σ x2 x3 x4) := by
  have hFU : ((FU : Nat) : Int) = 100000 := rfl
  intro n
  induction n with
  | zero => intro σ x2 x3 x4 hI p9000 p9001 hm; exfalso; omega
  | succ n ih =>
    intro σ x2 x3 x4 hI p9000 p9001 hm
    unfold fX11_tooFew_17
    have : 0 ≤ (σ.1 3 3).toInt ∧ (σ.1 3 3).toInt ≤ 40 := hI.1 3 3
    refine ok_le (fun h1 => ?_) (fun h1 => ?_)
    · have := i32_rng x3
      exact ok_some hI
    · have := i32_rng (σ.1 (182 + (6 * x2)) 1)
      refine ok_bi (sX4_placeOf τ σ x4 (σ.1 (182 + (6 * x2)) 1) hI (by omega) (by omega)) (fun r2 hr2 => ?_)
      obtain ⟨p3, p4⟩ := hr2
      have p3 : 0 ≤ r2.toInt := p3
      have p4 : r2.toInt ≤ 999 := p4
      refine ok_bs (sX1_choose τ x2 σ r2 hI (by omega) (by omega)) (fun r4 σ5 hr5 => ?_)
      have hr5 : IvC 0 τ σ5 := hr5
      have := i32_rng (σ5.1 14 5)
      refine ok_bi (sJ6_bitCount_0f7a4 τ σ5 (σ5.1 14 5) hr5) (fun r7 hr7 => ?_)
      obtain ⟨p8, p9⟩ := hr7
      have p8 : 0 ≤ r7.toInt := p8
      have p9 : r7.toInt ≤ 63 := p9
      have : 1 ≤ (σ5.1 (182 + (6 * x2)) 3).toInt ∧ (σ5.1 (182 + (6 * x2)) 3).toInt ≤ 4 := hr5.1.t0 x2 3
      refine ok_le (fun h10 => ?_) (fun h10 => ?_)
      · have := i32_rng x3
        exact sX11_tooFew_70 τ (fX11_tooFew_17 τ n) σ5 x2 x3 x4 hr5 (by omega) (by omega) (fun y0 y1 y2 y3 q0 q1 q2 q3 => ih y0 y1 y2 y3 q0 q1 q2 (by omega))
      · have := i32_rng x3
        have : (1 : Int32).toInt = 1 := by decide
        have := i32_rng (x3 + 1)
        refine ok_nmI (fun v9 hv9 he11 => ?_)
        have := i32_rng v9
        exact sX11_tooFew_70 τ (fX11_tooFew_17 τ n) σ5 x2 v9 x4 hr5 (by omega) (by omega) (fun y0 y1 y2 y3 q0 q1 q2 q3 => ih y0 y1 y2 y3 q0 q1 q2 (by omega))

theorem sX11_tooFew_0 (τ : Nat) (σ : S2) (x1 : Int32) (hI : IvC 0 τ σ)   : Ok (fun z => IvC 0 τ z.2) (fX11_tooFew_0 τ σ x1) := by
  have hFU : ((FU : Nat) : Int) = 100000 := rfl
  unfold fX11_tooFew_0
  have := i32_rng x1
  refine ok_bt hI ?_ (fun b11 hb1 => ?_)
  · have : ((-1) : Int32).toInt = (-1) := by decide
    exact ok_some hI
  · have : (0 : Int32).toInt = 0 := by decide
    exact sX11_tooFew_17 τ FU σ b11 0 0 hI (by omega) (by omega) (by omega)

theorem sX11_tooFew (τ : Nat) (σ : S2) (a1 : Int32) (hI : IvC 0 τ σ)   : Ok (fun z => IvC 0 τ z.2) (fX11_tooFew τ σ a1) := by
  unfold fX11_tooFew
  exact sX11_tooFew_0 τ σ a1 hI

theorem sX11_share_96 (τ : Nat) (k58 : S2 → Int32 → Nat → Int32 → Int32 → Option (Int32 × S2)) (σ : S2) (x2 : Int32) (x4 : Nat) (x5 : Int32) (x6 : Int32) (hI : IvC 0 τ σ) (p9000 : 0 ≤ x2.toInt) (p9001 : x2.toInt ≤ 11) (p9002 : 0 ≤ x6.toInt) (p9003 : x6.toInt ≤ 39) (hk58 : ∀ (y0 : S2) (y1 : Int32) (y2 : Nat) (y3 : Int32) (y4 : Int32), IvC 0 τ y0 → 0 ≤ y1.toInt → y1.toInt ≤ 11 → 0 ≤ y4.toInt → y4.toInt ≤ 40 → x6.toInt + 1 ≤ y4.toInt → Ok (fun z => IvC 0 τ z.2) (k58 y0 y1 y2 y3 y4)) : Ok (fun z => IvC 0 τ z.2) (fX11_share_96 τ k58 σ x2 x4 x5 x6) := by
  have hFU : ((FU : Nat) : Int) = 100000 := rfl
  unfold fX11_share_96
  have : (1 : Int32).toInt = 1 := by decide
  have : ((x6 + 1) : Int32).toInt = (x6 : Int32).toInt + (1 : Int32).toInt := i32_add (by omega) (by omega)
  refine ok_nmI (fun v1 hv1 he1 => ?_)
  have := i32_rng x5
  exact hk58 σ x2 x4 x5 v1 hI (by omega) (by omega) (by omega) (by omega) (by omega)

theorem sX11_share_58 (τ : Nat) : ∀ (n : Nat) (σ : S2) (x2 : Int32) (x4 : Nat) (x5 : Int32) (x6 : Int32), IvC 0 τ σ → 0 ≤ x2.toInt → x2.toInt ≤ 11 → 0 ≤ x6.toInt → x6.toInt ≤ 40 → 40 - x6.toInt < (n : Int) → Ok (fun z => IvC 0 τ z.2) (fX11_share_58 τ n σ x2 x4 x5 x6) := by
  have hFU : ((FU : Nat) : Int) = 100000 := rfl
  intro n
  induction n with
  | zero => intro σ x2 x4 x5 x6 hI p9000 p9001 p9002 p9003 hm; exfalso; omega
  | succ n ih =>
    intro σ x2 x4 x5 x6 hI p9000 p9001 p9002 p9003 hm
    unfold fX11_share_58
    have : 0 ≤ (σ.1 3 3).toInt ∧ (σ.1 3 3).toInt ≤ 40 := hI.1 3 3
    refine ok_le (fun h1 => ?_) (fun h1 => ?_)
    · have := i32_rng x5
      exact ok_some hI
    · have := i32_rng (σ.1 (182 + (6 * x4)) 1)
      refine ok_bi (sX4_placeOf τ σ x6 (σ.1 (182 + (6 * x4)) 1) hI (by omega) (by omega)) (fun r2 hr2 => ?_)
      obtain ⟨p3, p4⟩ := hr2
      have p3 : 0 ≤ r2.toInt := p3
      have p4 : r2.toInt ≤ 999 := p4
      refine ok_bi (sX8_firstFor τ x4 σ r2 hI (by omega) (by omega)) (fun r4 hr5 => ?_)
      obtain ⟨p6, p7⟩ := hr5
      have p6 : (-1) ≤ r4.toInt := p6
      have p7 : r4.toInt ≤ 11 := p7
      refine ok_eq (fun h8 => ?_) (fun h8 => ?_)
      · have := i32_rng x5
        have : (1 : Int32).toInt = 1 := by decide
        have := i32_rng (x5 + 1)
        refine ok_nmI (fun v6 hv6 he9 => ?_)
        have := i32_rng v6
        exact sX11_share_96 τ (fX11_share_58 τ n) σ x2 x4 v6 x6 hI (by omega) (by omega) (by omega) (by omega) (fun y0 y1 y2 y3 y4 q0 q1 q2 q3 q4 q5 => ih y0 y1 y2 y3 y4 q0 q1 q2 q3 q4 (by omega))
      · have := i32_rng x5
        exact sX11_share_96 τ (fX11_share_58 τ n) σ x2 x4 x5 x6 hI (by omega) (by omega) (by omega) (by omega) (fun y0 y1 y2 y3 y4 q0 q1 q2 q3 q4 q5 => ih y0 y1 y2 y3 y4 q0 q1 q2 q3 q4 (by omega))

theorem sX11_share_0 (τ : Nat) (σ : S2) (x1 : Int32) (x2 : Int32) (x3 : Int32) (hI : IvC 0 τ σ)   : Ok (fun z => IvC 0 τ z.2) (fX11_share_0 τ σ x1 x2 x3) := by
  have hFU : ((FU : Nat) : Int) = 100000 := rfl
  unfold fX11_share_0
  have := i32_rng x1
  refine ok_bt hI ?_ (fun b8 hb1 => ?_)
  · have : ((-1) : Int32).toInt = (-1) := by decide
    exact ok_some hI
  · have := i32_rng x2
    refine ok_bi (sX2_has τ σ x2 hI) (fun r9 hr2 => ?_)
    obtain ⟨p3, p4, p5⟩ := hr2
    have p3 : 0 ≤ r9.toInt := p3
    have p4 : r9.toInt ≤ 1 := p4
    have p5 : r9.toInt ≠ 0 → 0 ≤ x2.toInt ∧ x2.toInt < (σ.1 7 5).toInt := p5
    have : 0 ≤ (σ.1 7 5).toInt ∧ (σ.1 7 5).toInt ≤ 12 := hI.1 7 5
    have : (0 : Int32).toInt = 0 := by decide
    refine ok_eq (fun h6 => ?_) (fun h6 => ?_)
    · have : ((-1) : Int32).toInt = (-1) := by decide
      exact ok_some hI
    · have := i32_rng x3
      refine ok_lt (fun h7 => ?_) (fun h7 => ?_)
      · have : ((-1) : Int32).toInt = (-1) := by decide
        exact ok_some hI
      · have : (1 : Int32).toInt = 1 := by decide
        refine ok_le (fun h8 => ?_) (fun h8 => ?_)
        · refine ok_eq (fun h9 => ?_) (fun h9 => ?_)
          · refine ok_bs (sX8_countOdds τ b8 σ hI) (fun r11 σ12 hr10 => ?_)
            have hr10 : IvC 0 τ σ12 := hr10
            refine ok_ck (by omega) (by omega) ?_
            have := i32_rng (σ12.1 ((182 + (6 * b8)) + 2) (Int32.toNatClampNeg x2))
            refine ok_nmI (fun v14 hv14 he12 => ?_)
            have := i32_rng v14
            exact ok_some hr10
          · exact sX11_share_58 τ FU σ x2 b8 0 0 hI (by omega) (by omega) (by omega) (by omega) (by omega)
        · have : ((-1) : Int32).toInt = (-1) := by decide
          exact ok_some hI

theorem sX11_share (τ : Nat) (σ : S2) (a1 : Int32) (a2 : Int32) (a3 : Int32) (hI : IvC 0 τ σ)   : Ok (fun z => IvC 0 τ z.2) (fX11_share τ σ a1 a2 a3) := by
  unfold fX11_share
  exact sX11_share_0 τ σ a1 a2 a3 hI

theorem sX11_moves_157 (τ : Nat) (k50 : S2 → Int32 → Nat → Nat → Int32 → Int32 → Int32 → Option (Int32 × S2)) (σ : S2) (x3 : Int32) (x4 : Nat) (x5 : Nat) (x6 : Int32) (x7 : Int32) (x8 : Int32) (x10 : Int32) (hI : IvC 0 τ σ) (p9000 : 0 ≤ x3.toInt) (p9001 : x3.toInt ≤ 1) (p9002 : 0 ≤ x8.toInt) (p9003 : x8.toInt ≤ 39) (hk50 : ∀ (y0 : S2) (y1 : Int32) (y2 : Nat) (y3 : Nat) (y4 : Int32) (y5 : Int32) (y6 : Int32), IvC 0 τ y0 → 0 ≤ y1.toInt → y1.toInt ≤ 1 → 0 ≤ y6.toInt → y6.toInt ≤ 40 → x8.toInt + 1 ≤ y6.toInt → Ok (fun z => IvC 0 τ z.2) (k50 y0 y1 y2 y3 y4 y5 y6)) : Ok (fun z => IvC 0 τ z.2) (fX11_moves_157 τ k50 σ x3 x4 x5 x6 x7 x8 x10) := by
  have hFU : ((FU : Nat) : Int) = 100000 := rfl
  unfold fX11_moves_157
  have := i32_rng x10
  refine ok_bi (sJ6_bitCount_0f7a4 τ σ x10 hI) (fun r1 hr1 => ?_)
  obtain ⟨p2, p3⟩ := hr1
  have p2 : 0 ≤ r1.toInt := p2
  have p3 : r1.toInt ≤ 63 := p3
  have := i32_rng x7
  have := i32_rng (x7 + r1)
  refine ok_nmI (fun v3 hv3 he4 => ?_)
  have : (1 : Int32).toInt = 1 := by decide
  have : ((x8 + 1) : Int32).toInt = (x8 : Int32).toInt + (1 : Int32).toInt := i32_add (by omega) (by omega)
  refine ok_nmI (fun v4 hv4 he5 => ?_)
  have := i32_rng x6
  have := i32_rng v3
  exact hk50 σ x3 x4 x5 x6 v3 v4 hI (by omega) (by omega) (by omega) (by omega) (by omega)

theorem sX11_moves_155 (τ : Nat) (k50 : S2 → Int32 → Nat → Nat → Int32 → Int32 → Int32 → Option (Int32 × S2)) (σ : S2) (x3 : Int32) (x4 : Nat) (x5 : Nat) (x6 : Int32) (x7 : Int32) (x8 : Int32) (s0 : Int32) (hI : IvC 0 τ σ) (p9000 : 1 ≤ x3.toInt) (p9001 : x3.toInt ≤ 1) (p9002 : 0 ≤ x8.toInt) (p9003 : x8.toInt ≤ 39) (hk50 : ∀ (y0 : S2) (y1 : Int32) (y2 : Nat) (y3 : Nat) (y4 : Int32) (y5 : Int32) (y6 : Int32), IvC 0 τ y0 → 0 ≤ y1.toInt → y1.toInt ≤ 1 → 0 ≤ y6.toInt → y6.toInt ≤ 40 → x8.toInt + 1 ≤ y6.toInt → Ok (fun z => IvC 0 τ z.2) (k50 y0 y1 y2 y3 y4 y5 y6)) : Ok (fun z => IvC 0 τ z.2) (fX11_moves_155 τ k50 σ x3 x4 x5 x6 x7 x8 s0) := by
  have hFU : ((FU : Nat) : Int) = 100000 := rfl
  unfold fX11_moves_155
  have := i32_rng x6
  have := i32_rng x7
  have := i32_rng s0
  exact sX11_moves_157 τ k50 σ x3 x4 x5 x6 x7 x8 s0 hI (by omega) (by omega) (by omega) (by omega) (fun y0 y1 y2 y3 y4 y5 y6 q0 q1 q2 q3 q4 q5 => hk50 y0 y1 y2 y3 y4 y5 y6 q0 q1 q2 q3 q4 (by omega))

theorem sX11_moves_50 (τ : Nat) : ∀ (n : Nat) (σ : S2) (x3 : Int32) (x4 : Nat) (x5 : Nat) (x6 : Int32) (x7 : Int32) (x8 : Int32), IvC 0 τ σ → 0 ≤ x3.toInt → x3.toInt ≤ 1 → 0 ≤ x8.toInt → x8.toInt ≤ 40 → 40 - x8.toInt < (n : Int) → Ok (fun z => IvC 0 τ z.2) (fX11_moves_50 τ n σ x3 x4 x5 x6 x7 x8) := by
  have hFU : ((FU : Nat) : Int) = 100000 := rfl
  intro n
  induction n with
  | zero => intro σ x3 x4 x5 x6 x7 x8 hI p9000 p9001 p9002 p9003 hm; exfalso; omega
  | succ n ih =>
    intro σ x3 x4 x5 x6 x7 x8 hI p9000 p9001 p9002 p9003 hm
    unfold fX11_moves_50
    have : 0 ≤ (σ.1 3 3).toInt ∧ (σ.1 3 3).toInt ≤ 40 := hI.1 3 3
    refine ok_le (fun h1 => ?_) (fun h1 => ?_)
    · have := i32_rng x7
      exact ok_some hI
    · have := i32_rng (σ.1 (182 + (6 * x4)) 1)
      refine ok_bi (sX4_placeOf τ σ x8 (σ.1 (182 + (6 * x4)) 1) hI (by omega) (by omega)) (fun r5 hr2 => ?_)
      obtain ⟨p3, p4⟩ := hr2
      have p3 : 0 ≤ r5.toInt := p3
      have p4 : r5.toInt ≤ 999 := p4
      refine ok_bs (sX1_choose τ x4 σ r5 hI (by omega) (by omega)) (fun r7 σ8 hr5 => ?_)
      have hr5 : IvC 0 τ σ8 := hr5
      have := i32_rng (σ8.1 14 4)
      refine ok_nmI (fun v10 hv10 he7 => ?_)
      have := i32_rng (σ8.1 (182 + (6 * x5)) 1)
      refine ok_bi (sX4_placeOf τ σ8 x8 (σ8.1 (182 + (6 * x5)) 1) hr5 (by omega) (by omega)) (fun r11 hr8 => ?_)
      obtain ⟨p9, p10⟩ := hr8
      have p9 : 0 ≤ r11.toInt := p9
      have p10 : r11.toInt ≤ 999 := p10
      refine ok_bs (sX1_choose τ x5 σ8 r11 hr5 (by omega) (by omega)) (fun r13 σ14 hr11 => ?_)
      have hr11 : IvC 0 τ σ14 := hr11
      have := i32_rng (σ14.1 14 4)
      have := i32_rng v10
      have : ((-1) : Int32).toInt = (-1) := by decide
      have := i32_rng (v10 ^^^ (-1))
      have := i32_rng ((σ14.1 14 4) &&& (v10 ^^^ (-1)))
      refine ok_nmI (fun v16 hv16 he13 => ?_)
      have : (1 : Int32).toInt = 1 := by decide
      refine ok_eq (fun h14 => ?_) (fun h14 => ?_)
      · have := i32_rng x6
        have := i32_rng (x6 ^^^ (-1))
        have := i32_rng (v10 &&& (x6 ^^^ (-1)))
        have : (0 : Int32).toInt = 0 := by decide
        refine ok_eq (fun h15 => ?_) (fun h15 => ?_)
        · have := i32_rng x7
          have := i32_rng v16
          have := i32_rng (v16 &&& x6)
          exact sX11_moves_155 τ (fX11_moves_50 τ n) σ14 x3 x4 x5 x6 x7 x8 (v16 &&& x6) hr11 (by omega) (by omega) (by omega) (by omega) (fun y0 y1 y2 y3 y4 y5 y6 q0 q1 q2 q3 q4 q5 => ih y0 y1 y2 y3 y4 y5 y6 q0 q1 q2 q3 q4 (by omega))
        · have := i32_rng x7
          exact sX11_moves_155 τ (fX11_moves_50 τ n) σ14 x3 x4 x5 x6 x7 x8 0 hr11 (by omega) (by omega) (by omega) (by omega) (fun y0 y1 y2 y3 y4 y5 y6 q0 q1 q2 q3 q4 q5 => ih y0 y1 y2 y3 y4 y5 y6 q0 q1 q2 q3 q4 (by omega))
      · have := i32_rng x6
        have := i32_rng x7
        have := i32_rng v16
        exact sX11_moves_157 τ (fX11_moves_50 τ n) σ14 x3 x4 x5 x6 x7 x8 v16 hr11 (by omega) (by omega) (by omega) (by omega) (fun y0 y1 y2 y3 y4 y5 y6 q0 q1 q2 q3 q4 q5 => ih y0 y1 y2 y3 y4 y5 y6 q0 q1 q2 q3 q4 (by omega))

theorem sX11_moves_0 (τ : Nat) (σ : S2) (x1 : Int32) (x2 : Int32) (x3 : Int32) (hI : IvC 0 τ σ)   : Ok (fun z => IvC 0 τ z.2) (fX11_moves_0 τ σ x1 x2 x3) := by
  have hFU : ((FU : Nat) : Int) = 100000 := rfl
  unfold fX11_moves_0
  have := i32_rng x1
  refine ok_bt hI ?_ (fun b18 hb1 => ?_)
  · have := i32_rng x2
    refine ok_bt hI ?_ (fun b20 hb2 => ?_)
    · have : ((-1) : Int32).toInt = (-1) := by decide
      exact ok_some hI
    · have : ((-1) : Int32).toInt = (-1) := by decide
      exact ok_some hI
  · have := i32_rng x2
    refine ok_bt hI ?_ (fun b22 hb3 => ?_)
    · have : ((-1) : Int32).toInt = (-1) := by decide
      exact ok_some hI
    · have := i32_rng x3
      have : (0 : Int32).toInt = 0 := by decide
      refine ok_lt (fun h4 => ?_) (fun h4 => ?_)
      · have : ((-1) : Int32).toInt = (-1) := by decide
        exact ok_some hI
      · have : (1 : Int32).toInt = 1 := by decide
        refine ok_le (fun h5 => ?_) (fun h5 => ?_)
        · refine ok_bi (sX8_alikeIn τ b18 b22 σ hI) (fun r23 hr6 => ?_)
          have := i32_rng r23
          exact sX11_moves_50 τ FU σ x3 b18 b22 r23 0 0 hI (by omega) (by omega) (by omega) (by omega) (by omega)
        · have : ((-1) : Int32).toInt = (-1) := by decide
          exact ok_some hI

theorem sX11_moves (τ : Nat) (σ : S2) (a1 : Int32) (a2 : Int32) (a3 : Int32) (hI : IvC 0 τ σ)   : Ok (fun z => IvC 0 τ z.2) (fX11_moves τ σ a1 a2 a3) := by
  unfold fX11_moves
  exact sX11_moves_0 τ σ a1 a2 a3 hI

theorem sX11_knows_0 (τ : Nat) (σ : S2) (x1 : Int32) (x2 : Int32) (hI : IvC 0 τ σ)   : Ok (fun z => IvC 0 τ z.2 ∧ (-2000000000) ≤ z.1.toInt ∧ z.1.toInt ≤ 9) (fX11_knows_0 τ σ x1 x2) := by
  have hFU : ((FU : Nat) : Int) = 100000 := rfl
  unfold fX11_knows_0
  have := i32_rng x1
  refine ok_bi (sX2_has τ σ x1 hI) (fun r1 hr1 => ?_)
  obtain ⟨p2, p3, p4⟩ := hr1
  have p2 : 0 ≤ r1.toInt := p2
  have p3 : r1.toInt ≤ 1 := p3
  have p4 : r1.toInt ≠ 0 → 0 ≤ x1.toInt ∧ x1.toInt < (σ.1 7 5).toInt := p4
  have : 0 ≤ (σ.1 7 5).toInt ∧ (σ.1 7 5).toInt ≤ 12 := hI.1 7 5
  have : (0 : Int32).toInt = 0 := by decide
  refine ok_eq (fun h5 => ?_) (fun h5 => ?_)
  · have : ((-2000000000) : Int32).toInt = (-2000000000) := by decide
    exact ok_some ⟨hI, by show (-2000000000) ≤ ((-2000000000) : Int32).toInt; omega, by show ((-2000000000) : Int32).toInt ≤ 9; omega⟩
  · have := i32_rng x2
    have : ((-1) : Int32).toInt = (-1) := by decide
    refine ok_lt (fun h6 => ?_) (fun h6 => ?_)
    · have : ((-2000000000) : Int32).toInt = (-2000000000) := by decide
      exact ok_some ⟨hI, by show (-2000000000) ≤ ((-2000000000) : Int32).toInt; omega, by show ((-2000000000) : Int32).toInt ≤ 9; omega⟩
    · have : 0 ≤ (σ.1 0 6).toInt ∧ (σ.1 0 6).toInt ≤ 10 := hI.1 0 6
      refine ok_lt (fun h7 => ?_) (fun h7 => ?_)
      · refine ok_ck (by omega) (by omega) ?_
        have : (-1) ≤ (σ.1 11 (Int32.toNatClampNeg x1)).toInt ∧ (σ.1 11 (Int32.toNatClampNeg x1)).toInt ≤ 9 := hI.1 11 (Int32.toNatClampNeg x1)
        refine ok_nmI (fun v3 hv3 he8 => ?_)
        refine ok_ck (by omega) (by omega) ?_
        refine ok_nm (fun σ4 hs9 => ?_)
        have hI10 : IvC 0 τ σ4 := by rw [hs9]; exact IvC.wF hI (by decide) (by omega) (show (-1) ≤ (x2 : Int32).toInt by omega) (show (x2 : Int32).toInt ≤ 9 by omega)
        have : (σ4.1 0 6).toInt = (σ.1 0 6).toInt := by rw [hs9]; rfl
        exact ok_some ⟨hI10, by show (-2000000000) ≤ v3.toInt; omega, by show v3.toInt ≤ 9; omega⟩
      · have : ((-2000000000) : Int32).toInt = (-2000000000) := by decide
        exact ok_some ⟨hI, by show (-2000000000) ≤ ((-2000000000) : Int32).toInt; omega, by show ((-2000000000) : Int32).toInt ≤ 9; omega⟩

theorem sX11_knows (τ : Nat) (σ : S2) (a1 : Int32) (a2 : Int32) (hI : IvC 0 τ σ)   : Ok (fun z => IvC 0 τ z.2 ∧ (-2000000000) ≤ z.1.toInt ∧ z.1.toInt ≤ 9) (fX11_knows τ σ a1 a2) := by
  unfold fX11_knows
  exact sX11_knows_0 τ σ a1 a2 hI

theorem sX11_write_0 (τ : Nat) (σ : S2) (x1 : Int32) (x2 : Int32) (hI : IvC 0 τ σ)   : Ok (fun z => IvC 0 τ z.2) (fX11_write_0 τ σ x1 x2) := by
  have hFU : ((FU : Nat) : Int) = 100000 := rfl
  unfold fX11_write_0
  have := i32_rng x1
  refine ok_bi (sX2_has τ σ x1 hI) (fun r1 hr1 => ?_)
  obtain ⟨p2, p3, p4⟩ := hr1
  have p2 : 0 ≤ r1.toInt := p2
  have p3 : r1.toInt ≤ 1 := p3
  have p4 : r1.toInt ≠ 0 → 0 ≤ x1.toInt ∧ x1.toInt < (σ.1 7 5).toInt := p4
  have : 0 ≤ (σ.1 7 5).toInt ∧ (σ.1 7 5).toInt ≤ 12 := hI.1 7 5
  have : (0 : Int32).toInt = 0 := by decide
  refine ok_eq (fun h5 => ?_) (fun h5 => ?_)
  · have : ((-1) : Int32).toInt = (-1) := by decide
    exact ok_some hI
  · have := i32_rng x2
    refine ok_bi (sX4_has τ σ x2 hI) (fun r3 hr6 => ?_)
    obtain ⟨p7, p8, p9⟩ := hr6
    have p7 : 0 ≤ r3.toInt := p7
    have p8 : r3.toInt ≤ 1 := p8
    have p9 : r3.toInt ≠ 0 → 0 ≤ x2.toInt ∧ x2.toInt < (σ.1 3 3).toInt := p9
    have : 0 ≤ (σ.1 3 3).toInt ∧ (σ.1 3 3).toInt ≤ 40 := hI.1 3 3
    refine ok_eq (fun h10 => ?_) (fun h10 => ?_)
    · have : ((-1) : Int32).toInt = (-1) := by decide
      exact ok_some hI
    · refine ok_ck (by omega) (by omega) ?_
      have : (-1) ≤ (σ.1 11 (Int32.toNatClampNeg x1)).toInt ∧ (σ.1 11 (Int32.toNatClampNeg x1)).toInt ≤ 9 := hI.1 11 (Int32.toNatClampNeg x1)
      refine ok_nmI (fun v5 hv5 he11 => ?_)
      refine ok_bt hI ?_ (fun b7 hb12 => ?_)
      · have : ((-5) : Int32).toInt = (-5) := by decide
        exact ok_some hI
      · refine ok_bi (sX2_isUp τ σ x1 hI (by omega) (by omega)) (fun r8 hr13 => ?_)
        obtain ⟨p14, p15⟩ := hr13
        have p14 : 0 ≤ r8.toInt := p14
        have p15 : r8.toInt ≤ 1 := p15
        refine ok_eq (fun h16 => ?_) (fun h16 => ?_)
        · have : ((-5) : Int32).toInt = (-5) := by decide
          exact ok_some hI
        · refine ok_bs (sX6_spread τ b7 σ x2 hI (by omega) (by omega)) (fun r10 σ11 hr17 => ?_)
          have hr17 : IvC 0 τ σ11 := hr17
          have := i32_rng r10
          exact ok_some hr17

theorem sX11_write (τ : Nat) (σ : S2) (a1 : Int32) (a2 : Int32) (hI : IvC 0 τ σ)   : Ok (fun z => IvC 0 τ z.2) (fX11_write τ σ a1 a2) := by
  unfold fX11_write
  exact sX11_write_0 τ σ a1 a2 hI

theorem sX11_read_0 (τ : Nat) (σ : S2) (x1 : Int32) (x2 : Int32) (hI : IvC 0 τ σ)   : Ok (fun z => IvC 0 τ z.2 ∧ (-5) ≤ z.1.toInt) (fX11_read_0 τ σ x1 x2) := by
  have hFU : ((FU : Nat) : Int) = 100000 := rfl
  unfold fX11_read_0
  have := i32_rng x1
  refine ok_bi (sX2_has τ σ x1 hI) (fun r1 hr1 => ?_)
  obtain ⟨p2, p3, p4⟩ := hr1
  have p2 : 0 ≤ r1.toInt := p2
  have p3 : r1.toInt ≤ 1 := p3
  have p4 : r1.toInt ≠ 0 → 0 ≤ x1.toInt ∧ x1.toInt < (σ.1 7 5).toInt := p4
  have : 0 ≤ (σ.1 7 5).toInt ∧ (σ.1 7 5).toInt ≤ 12 := hI.1 7 5
  have : (0 : Int32).toInt = 0 := by decide
  refine ok_eq (fun h5 => ?_) (fun h5 => ?_)
  · have : ((-1) : Int32).toInt = (-1) := by decide
    exact ok_some ⟨hI, by show (-5) ≤ ((-1) : Int32).toInt; omega⟩
  · have := i32_rng x2
    refine ok_bi (sX4_has τ σ x2 hI) (fun r3 hr6 => ?_)
    obtain ⟨p7, p8, p9⟩ := hr6
    have p7 : 0 ≤ r3.toInt := p7
    have p8 : r3.toInt ≤ 1 := p8
    have p9 : r3.toInt ≠ 0 → 0 ≤ x2.toInt ∧ x2.toInt < (σ.1 3 3).toInt := p9
    have : 0 ≤ (σ.1 3 3).toInt ∧ (σ.1 3 3).toInt ≤ 40 := hI.1 3 3
    refine ok_eq (fun h10 => ?_) (fun h10 => ?_)
    · have : ((-1) : Int32).toInt = (-1) := by decide
      exact ok_some ⟨hI, by show (-5) ≤ ((-1) : Int32).toInt; omega⟩
    · refine ok_ck (by omega) (by omega) ?_
      have : (-1) ≤ (σ.1 11 (Int32.toNatClampNeg x1)).toInt ∧ (σ.1 11 (Int32.toNatClampNeg x1)).toInt ≤ 9 := hI.1 11 (Int32.toNatClampNeg x1)
      refine ok_nmI (fun v5 hv5 he11 => ?_)
      refine ok_bt hI ?_ (fun b7 hb12 => ?_)
      · have : ((-5) : Int32).toInt = (-5) := by decide
        exact ok_some ⟨hI, by show (-5) ≤ ((-5) : Int32).toInt; omega⟩
      · refine ok_bi (sX2_isUp τ σ x1 hI (by omega) (by omega)) (fun r8 hr13 => ?_)
        obtain ⟨p14, p15⟩ := hr13
        have p14 : 0 ≤ r8.toInt := p14
        have p15 : r8.toInt ≤ 1 := p15
        refine ok_eq (fun h16 => ?_) (fun h16 => ?_)
        · have : ((-5) : Int32).toInt = (-5) := by decide
          exact ok_some ⟨hI, by show (-5) ≤ ((-5) : Int32).toInt; omega⟩
        · refine ok_bs (sX6_greatestFor τ b7 σ x2 hI (by omega) (by omega)) (fun r10 σ11 hr17 => ?_)
          obtain ⟨p18, p19⟩ := hr17
          have p18 : IvC 0 τ σ11 := p18
          have p19 : 0 ≤ r10.toInt := p19
          have := i32_rng r10
          exact ok_some ⟨p18, by show (-5) ≤ r10.toInt; omega⟩

theorem sX11_read (τ : Nat) (σ : S2) (a1 : Int32) (a2 : Int32) (hI : IvC 0 τ σ)   : Ok (fun z => IvC 0 τ z.2 ∧ (-5) ≤ z.1.toInt) (fX11_read τ σ a1 a2) := by
  unfold fX11_read
  exact sX11_read_0 τ σ a1 a2 hI

theorem sX11_onShelf_0 (τ : Nat) (σ : S2) (x1 : Int32) (x2 : Int32) (x3 : Int32) (hI : IvC 0 τ σ)   : Ok (fun z => True) (fX11_onShelf_0 τ σ x1 x2 x3) := by
  have hFU : ((FU : Nat) : Int) = 100000 := rfl
  unfold fX11_onShelf_0
  have := i32_rng x1
  refine ok_bi (sX2_has τ σ x1 hI) (fun r1 hr1 => ?_)
  obtain ⟨p2, p3, p4⟩ := hr1
  have p2 : 0 ≤ r1.toInt := p2
  have p3 : r1.toInt ≤ 1 := p3
  have p4 : r1.toInt ≠ 0 → 0 ≤ x1.toInt ∧ x1.toInt < (σ.1 7 5).toInt := p4
  have : 0 ≤ (σ.1 7 5).toInt ∧ (σ.1 7 5).toInt ≤ 12 := hI.1 7 5
  have : (0 : Int32).toInt = 0 := by decide
  refine ok_eq (fun h5 => ?_) (fun h5 => ?_)
  · have : ((-1) : Int32).toInt = (-1) := by decide
    exact ok_some trivial
  · have := i32_rng x2
    refine ok_bi (sX4_has τ σ x2 hI) (fun r3 hr6 => ?_)
    obtain ⟨p7, p8, p9⟩ := hr6
    have p7 : 0 ≤ r3.toInt := p7
    have p8 : r3.toInt ≤ 1 := p8
    have p9 : r3.toInt ≠ 0 → 0 ≤ x2.toInt ∧ x2.toInt < (σ.1 3 3).toInt := p9
    have : 0 ≤ (σ.1 3 3).toInt ∧ (σ.1 3 3).toInt ≤ 40 := hI.1 3 3
    refine ok_eq (fun h10 => ?_) (fun h10 => ?_)
    · have : ((-1) : Int32).toInt = (-1) := by decide
      exact ok_some trivial
    · have := i32_rng x3
      refine ok_eq (fun h11 => ?_) (fun h11 => ?_)
      · refine ok_ck (by omega) (by omega) ?_
        refine ok_ck (by omega) (by omega) ?_
        have := i32_rng (σ.1 (84 + (Int32.toNatClampNeg x1)) (Int32.toNatClampNeg x2))
        refine ok_nmI (fun v7 hv7 he12 => ?_)
        have := i32_rng v7
        exact ok_some trivial
      · have : (1 : Int32).toInt = 1 := by decide
        refine ok_eq (fun h13 => ?_) (fun h13 => ?_)
        · refine ok_ck (by omega) (by omega) ?_
          refine ok_ck (by omega) (by omega) ?_
          have := i32_rng (σ.1 (96 + (Int32.toNatClampNeg x1)) (Int32.toNatClampNeg x2))
          refine ok_nmI (fun v10 hv10 he14 => ?_)
          have := i32_rng v10
          exact ok_some trivial
        · have : (2 : Int32).toInt = 2 := by decide
          refine ok_eq (fun h15 => ?_) (fun h15 => ?_)
          · refine ok_ck (by omega) (by omega) ?_
            refine ok_ck (by omega) (by omega) ?_
            have := i32_rng (σ.1 (96 + (Int32.toNatClampNeg x1)) (Int32.toNatClampNeg x2))
            refine ok_nmI (fun v13 hv13 he16 => ?_)
            have := i32_rng v13
            refine ok_eq (fun h17 => ?_) (fun h17 => ?_)
            · have : ((-2) : Int32).toInt = (-2) := by decide
              exact ok_some trivial
            · refine ok_ck (by omega) (by omega) ?_
              refine ok_ck (by omega) (by omega) ?_
              have : 0 ≤ (σ.1 (108 + (Int32.toNatClampNeg x1)) (Int32.toNatClampNeg x2)).toInt ∧ (σ.1 (108 + (Int32.toNatClampNeg x1)) (Int32.toNatClampNeg x2)).toInt ≤ 11 := hI.1.r3 _ _ (by have := i32_nat (i := x1) (by omega); omega)
              refine ok_nmI (fun v15 hv15 he18 => ?_)
              exact ok_some trivial
          · have : (3 : Int32).toInt = 3 := by decide
            refine ok_eq (fun h19 => ?_) (fun h19 => ?_)
            · refine ok_ck (by omega) (by omega) ?_
              refine ok_ck (by omega) (by omega) ?_
              have := i32_rng (σ.1 (120 + (Int32.toNatClampNeg x1)) (Int32.toNatClampNeg x2))
              refine ok_nmI (fun v18 hv18 he20 => ?_)
              have := i32_rng v18
              exact ok_some trivial
            · have : ((-1) : Int32).toInt = (-1) := by decide
              exact ok_some trivial

theorem sX11_onShelf (τ : Nat) (σ : S2) (a1 : Int32) (a2 : Int32) (a3 : Int32) (hI : IvC 0 τ σ)   : Ok (fun z => True) (fX11_onShelf τ σ a1 a2 a3) := by
  unfold fX11_onShelf
  exact sX11_onShelf_0 τ σ a1 a2 a3 hI

theorem sX11_fall_58 (τ : Nat) (σ : S2) (x1 : Int32) (x2 : Int32) (x3 : Int32) (s0 : Int32) (s1 : Int32) (hI : IvC 0 τ σ) (p9000 : 0 ≤ x1.toInt) (p9001 : x1.toInt ≤ 11) (p9002 : 0 ≤ x2.toInt) (p9003 : x2.toInt ≤ 1) (p9004 : 0 ≤ x3.toInt) (p9005 : x3.toInt ≤ 1) (p9006 : 0 ≤ s0.toInt) (p9007 : s0.toInt ≤ 1) (p9008 : 0 ≤ s1.toInt) (p9009 : s1.toInt ≤ 11)  : Ok (fun z => IvC 0 τ z.2 ∧ (-1) ≤ z.1.toInt ∧ z.1.toInt ≤ 1) (fX11_fall_58 τ σ x1 x2 x3 s0 s1) := by
  have hFU : ((FU : Nat) : Int) = 100000 := rfl
  unfold fX11_fall_58
  refine ok_ck (by omega) (by omega) ?_
  have : ((vp_nar .boolean s0) : Int32).toInt = (s0 : Int32).toInt := i32_narb (by omega) (by omega)
  refine ok_nm (fun σ1 hs1 => ?_)
  have hI2 : IvC 0 τ σ1 := by rw [hs1]; exact IvC.wF hI (by decide) (by omega) (show 0 ≤ ((vp_nar .boolean s0) : Int32).toInt by omega) (show ((vp_nar .boolean s0) : Int32).toInt ≤ 1 by omega)
  have : (1 : Int32).toInt = 1 := by decide
  refine ok_eq (fun h3 => ?_) (fun h3 => ?_)
  · refine ok_bs (sX6_empty τ σ1 x1 hI2 (by omega) (by omega)) (fun r2 σ3 hr4 => ?_)
    have hr4 : IvC 0 τ σ3 := hr4
    exact ok_some ⟨hr4, by show (-1) ≤ x3.toInt; omega, by show x3.toInt ≤ 1; omega⟩
  · exact ok_some ⟨hI2, by show (-1) ≤ x3.toInt; omega, by show x3.toInt ≤ 1; omega⟩

theorem sX11_fall_39 (τ : Nat) (σ : S2) (x1 : Int32) (x2 : Int32) (s0 : Int32) (hI : IvC 0 τ σ) (p9000 : 0 ≤ x1.toInt) (p9001 : x1.toInt ≤ 11) (p9002 : 0 ≤ x2.toInt) (p9003 : x2.toInt ≤ 1) (p9004 : 0 ≤ s0.toInt) (p9005 : s0.toInt ≤ 1)  : Ok (fun z => IvC 0 τ z.2 ∧ (-1) ≤ z.1.toInt ∧ z.1.toInt ≤ 1) (fX11_fall_39 τ σ x1 x2 s0) := by
  have hFU : ((FU : Nat) : Int) = 100000 := rfl
  unfold fX11_fall_39
  have : (1 : Int32).toInt = 1 := by decide
  refine ok_eq (fun h1 => ?_) (fun h1 => ?_)
  · exact sX11_fall_58 τ σ x1 x2 s0 1 x1 hI (by omega) (by omega) (by omega) (by omega) (by omega) (by omega) (by omega) (by omega) (by omega) (by omega)
  · have : (0 : Int32).toInt = 0 := by decide
    exact sX11_fall_58 τ σ x1 x2 s0 0 x1 hI (by omega) (by omega) (by omega) (by omega) (by omega) (by omega) (by omega) (by omega) (by omega) (by omega)

theorem sX11_fall_0 (τ : Nat) (σ : S2) (x1 : Int32) (x2 : Int32) (hI : IvC 0 τ σ)   : Ok (fun z => IvC 0 τ z.2 ∧ (-1) ≤ z.1.toInt ∧ z.1.toInt ≤ 1) (fX11_fall_0 τ σ x1 x2) := by
  have hFU : ((FU : Nat) : Int) = 100000 := rfl
  unfold fX11_fall_0
  have := i32_rng x1
  refine ok_bi (sX2_has τ σ x1 hI) (fun r5 hr1 => ?_)
  obtain ⟨p2, p3, p4⟩ := hr1
  have p2 : 0 ≤ r5.toInt := p2
  have p3 : r5.toInt ≤ 1 := p3
  have p4 : r5.toInt ≠ 0 → 0 ≤ x1.toInt ∧ x1.toInt < (σ.1 7 5).toInt := p4
  have : 0 ≤ (σ.1 7 5).toInt ∧ (σ.1 7 5).toInt ≤ 12 := hI.1 7 5
  have : (0 : Int32).toInt = 0 := by decide
  refine ok_eq (fun h5 => ?_) (fun h5 => ?_)
  · have : ((-1) : Int32).toInt = (-1) := by decide
    exact ok_some ⟨hI, by show (-1) ≤ ((-1) : Int32).toInt; omega, by show ((-1) : Int32).toInt ≤ 1; omega⟩
  · have := i32_rng x2
    refine ok_lt (fun h6 => ?_) (fun h6 => ?_)
    · have : ((-1) : Int32).toInt = (-1) := by decide
      exact ok_some ⟨hI, by show (-1) ≤ ((-1) : Int32).toInt; omega, by show ((-1) : Int32).toInt ≤ 1; omega⟩
    · have : (1 : Int32).toInt = 1 := by decide
      refine ok_le (fun h7 => ?_) (fun h7 => ?_)
      · refine ok_ck (by omega) (by omega) ?_
        have : 0 ≤ (σ.1 12 (Int32.toNatClampNeg x1)).toInt ∧ (σ.1 12 (Int32.toNatClampNeg x1)).toInt ≤ 1 := hI.1 12 (Int32.toNatClampNeg x1)
        refine ok_nmI (fun v7 hv7 he8 => ?_)
        refine ok_eq (fun h9 => ?_) (fun h9 => ?_)
        · exact sX11_fall_39 τ σ x1 x2 0 hI (by omega) (by omega) (by omega) (by omega) (by omega) (by omega)
        · exact sX11_fall_39 τ σ x1 x2 1 hI (by omega) (by omega) (by omega) (by omega) (by omega) (by omega)
      · have : ((-1) : Int32).toInt = (-1) := by decide
        exact ok_some ⟨hI, by show (-1) ≤ ((-1) : Int32).toInt; omega, by show ((-1) : Int32).toInt ≤ 1; omega⟩

theorem sX11_fall (τ : Nat) (σ : S2) (a1 : Int32) (a2 : Int32) (hI : IvC 0 τ σ)   : Ok (fun z => IvC 0 τ z.2 ∧ (-1) ≤ z.1.toInt ∧ z.1.toInt ≤ 1) (fX11_fall τ σ a1 a2) := by
  unfold fX11_fall
  exact sX11_fall_0 τ σ a1 a2 hI

theorem sX11_half_0 (τ : Nat) (σ : S2) (x1 : Int32) (x2 : Int32) (x3 : Int32) (hI : IvC 0 τ σ)   : Ok (fun z => IvC 0 τ z.2 ∧ z.1.toInt ≤ 3) (fX11_half_0 τ σ x1 x2 x3) := by
  have hFU : ((FU : Nat) : Int) = 100000 := rfl
  unfold fX11_half_0
  have := i32_rng x1
  refine ok_bi (sX4_has τ σ x1 hI) (fun r1 hr1 => ?_)
  obtain ⟨p2, p3, p4⟩ := hr1
  have p2 : 0 ≤ r1.toInt := p2
  have p3 : r1.toInt ≤ 1 := p3
  have p4 : r1.toInt ≠ 0 → 0 ≤ x1.toInt ∧ x1.toInt < (σ.1 3 3).toInt := p4
  have : 0 ≤ (σ.1 3 3).toInt ∧ (σ.1 3 3).toInt ≤ 40 := hI.1 3 3
  have : (0 : Int32).toInt = 0 := by decide
  refine ok_eq (fun h5 => ?_) (fun h5 => ?_)
  · have : ((-1) : Int32).toInt = (-1) := by decide
    exact ok_some ⟨hI, by show ((-1) : Int32).toInt ≤ 3; omega⟩
  · have := i32_rng x2
    refine ok_bi (sX2_has τ σ x2 hI) (fun r3 hr6 => ?_)
    obtain ⟨p7, p8, p9⟩ := hr6
    have p7 : 0 ≤ r3.toInt := p7
    have p8 : r3.toInt ≤ 1 := p8
    have p9 : r3.toInt ≠ 0 → 0 ≤ x2.toInt ∧ x2.toInt < (σ.1 7 5).toInt := p9
    have : 0 ≤ (σ.1 7 5).toInt ∧ (σ.1 7 5).toInt ≤ 12 := hI.1 7 5
    refine ok_eq (fun h10 => ?_) (fun h10 => ?_)
    · have : ((-1) : Int32).toInt = (-1) := by decide
      exact ok_some ⟨hI, by show ((-1) : Int32).toInt ≤ 3; omega⟩
    · have := i32_rng x3
      refine ok_bi (sX2_has τ σ x3 hI) (fun r5 hr11 => ?_)
      obtain ⟨p12, p13, p14⟩ := hr11
      have p12 : 0 ≤ r5.toInt := p12
      have p13 : r5.toInt ≤ 1 := p13
      have p14 : r5.toInt ≠ 0 → 0 ≤ x3.toInt ∧ x3.toInt < (σ.1 7 5).toInt := p14
      refine ok_eq (fun h15 => ?_) (fun h15 => ?_)
      · have : ((-1) : Int32).toInt = (-1) := by decide
        exact ok_some ⟨hI, by show ((-1) : Int32).toInt ≤ 3; omega⟩
      · refine ok_eq (fun h16 => ?_) (fun h16 => ?_)
        · have : ((-1) : Int32).toInt = (-1) := by decide
          exact ok_some ⟨hI, by show ((-1) : Int32).toInt ≤ 3; omega⟩
        · refine ok_ck (by omega) (by omega) ?_
          refine ok_ck (by omega) (by omega) ?_
          have := i32_rng (σ.1 (84 + (Int32.toNatClampNeg x2)) (Int32.toNatClampNeg x1))
          refine ok_nmI (fun v8 hv8 he17 => ?_)
          have := i32_rng v8
          refine ok_eq (fun h18 => ?_) (fun h18 => ?_)
          · have : ((-2) : Int32).toInt = (-2) := by decide
            exact ok_some ⟨hI, by show ((-2) : Int32).toInt ≤ 3; omega⟩
          · refine ok_bs (sX6_movePiece τ σ x1 x2 x3 hI (by omega) (by omega) (by omega) (by omega) (by omega) (by omega)) (fun r9 σ10 hr19 => ?_)
            obtain ⟨p20, p21⟩ := hr19
            have p20 : IvC 0 τ σ10 := p20
            have p21 : r9.toInt ≤ 3 := p21
            have := i32_rng r9
            exact ok_some ⟨p20, by show r9.toInt ≤ 3; omega⟩

theorem sX11_half (τ : Nat) (σ : S2) (a1 : Int32) (a2 : Int32) (a3 : Int32) (hI : IvC 0 τ σ)   : Ok (fun z => IvC 0 τ z.2 ∧ z.1.toInt ≤ 3) (fX11_half τ σ a1 a2 a3) := by
  unfold fX11_half
  exact sX11_half_0 τ σ a1 a2 a3 hI

theorem sX11_mend_0 (τ : Nat) (σ : S2) (x1 : Int32) (hI : IvC 0 τ σ)   : Ok (fun z => IvC 0 τ z.2) (fX11_mend_0 τ σ x1) := by
  have hFU : ((FU : Nat) : Int) = 100000 := rfl
  unfold fX11_mend_0
  have := i32_rng x1
  refine ok_bt hI ?_ (fun b2 hb1 => ?_)
  · have : ((-1) : Int32).toInt = (-1) := by decide
    exact ok_some hI
  · refine ok_bs (sX6_mendAll τ b2 σ hI) (fun r3 σ4 hr2 => ?_)
    have hr2 : IvC 0 τ σ4 := hr2
    have := i32_rng r3
    exact ok_some hr2

theorem sX11_mend (τ : Nat) (σ : S2) (a1 : Int32) (hI : IvC 0 τ σ)   : Ok (fun z => IvC 0 τ z.2) (fX11_mend τ σ a1) := by
  unfold fX11_mend
  exact sX11_mend_0 τ σ a1 hI

theorem sX11_trees_0 (τ : Nat) (σ : S2) (x1 : Int32) (x2 : Int32) (x3 : Int32) (hI : IvC 0 τ σ)   : Ok (fun z => IvC 0 τ z.2) (fX11_trees_0 τ σ x1 x2 x3) := by
  have hFU : ((FU : Nat) : Int) = 100000 := rfl
  unfold fX11_trees_0
  have := i32_rng x1
  refine ok_bi (sX2_has τ σ x1 hI) (fun r1 hr1 => ?_)
  obtain ⟨p2, p3, p4⟩ := hr1
  have p2 : 0 ≤ r1.toInt := p2
  have p3 : r1.toInt ≤ 1 := p3
  have p4 : r1.toInt ≠ 0 → 0 ≤ x1.toInt ∧ x1.toInt < (σ.1 7 5).toInt := p4
  have : 0 ≤ (σ.1 7 5).toInt ∧ (σ.1 7 5).toInt ≤ 12 := hI.1 7 5
  have : (0 : Int32).toInt = 0 := by decide
  refine ok_eq (fun h5 => ?_) (fun h5 => ?_)
  · have : ((-1) : Int32).toInt = (-1) := by decide
    exact ok_some hI
  · have := i32_rng x2
    refine ok_bi (sX2_has τ σ x2 hI) (fun r3 hr6 => ?_)
    obtain ⟨p7, p8, p9⟩ := hr6
    have p7 : 0 ≤ r3.toInt := p7
    have p8 : r3.toInt ≤ 1 := p8
    have p9 : r3.toInt ≠ 0 → 0 ≤ x2.toInt ∧ x2.toInt < (σ.1 7 5).toInt := p9
    refine ok_eq (fun h10 => ?_) (fun h10 => ?_)
    · have : ((-1) : Int32).toInt = (-1) := by decide
      exact ok_some hI
    · refine ok_eq (fun h11 => ?_) (fun h11 => ?_)
      · have : ((-1) : Int32).toInt = (-1) := by decide
        exact ok_some hI
      · have := i32_rng x3
        refine ok_lt (fun h12 => ?_) (fun h12 => ?_)
        · have : ((-1) : Int32).toInt = (-1) := by decide
          exact ok_some hI
        · have : (1 : Int32).toInt = 1 := by decide
          refine ok_le (fun h13 => ?_) (fun h13 => ?_)
          · refine ok_bs (sX6_compare τ σ x1 x2 hI (by omega) (by omega) (by omega) (by omega)) (fun r5 σ6 hr14 => ?_)
            have hr14 : IvC 0 τ σ6 := hr14
            refine ok_eq (fun h16 => ?_) (fun h16 => ?_)
            · refine ok_bi (sX6_wordsAsked τ σ6 hr14) (fun r10 hr17 => ?_)
              have := i32_rng r10
              exact ok_some hr14
            · refine ok_bi (sX6_unlikeLeaves τ σ6 hr14) (fun r8 hr18 => ?_)
              have := i32_rng r8
              exact ok_some hr14
          · have : ((-1) : Int32).toInt = (-1) := by decide
            exact ok_some hI

theorem sX11_trees (τ : Nat) (σ : S2) (a1 : Int32) (a2 : Int32) (a3 : Int32) (hI : IvC 0 τ σ)   : Ok (fun z => IvC 0 τ z.2) (fX11_trees τ σ a1 a2 a3) := by
  unfold fX11_trees
  exact sX11_trees_0 τ σ a1 a2 a3 hI

theorem sX11_upward_0 (τ : Nat) (σ : S2) (x0 : Int32) (x1 : Int32) (hI : IvC 0 τ σ) (p9000 : (-784) ≤ x0.toInt) (p9001 : x0.toInt ≤ 9999) (p9002 : 1 ≤ x1.toInt) (p9003 : x1.toInt ≤ 99)  : Ok (fun z => True) (fX11_upward_0 τ σ x0 x1) := by
  have hFU : ((FU : Nat) : Int) = 100000 := rfl
  unfold fX11_upward_0
  have : (0 : Int32).toInt = 0 := by decide
  refine ok_le (fun h1 => ?_) (fun h1 => ?_)
  · exfalso; omega
  · refine ok_dz (by omega) ?_
    have : ((x0 + x1) : Int32).toInt = (x0 : Int32).toInt + (x1 : Int32).toInt := i32_add (by omega) (by omega)
    have : (1 : Int32).toInt = 1 := by decide
    have : (((x0 + x1) - 1) : Int32).toInt = ((x0 + x1) : Int32).toInt - (1 : Int32).toInt := i32_sub (by omega) (by omega)
    have := i32_rng (((x0 + x1) - 1) / x1)
    exact ok_some trivial

theorem sX11_upward (τ : Nat) (σ : S2) (a0 : Int32) (a1 : Int32) (hI : IvC 0 τ σ) (p9000 : (-784) ≤ a0.toInt) (p9001 : a0.toInt ≤ 9999) (p9002 : 1 ≤ a1.toInt) (p9003 : a1.toInt ≤ 99)  : Ok (fun z => True) (fX11_upward τ σ a0 a1) := by
  unfold fX11_upward
  exact sX11_upward_0 τ σ a0 a1 hI (by assumption) (by assumption) (by assumption) (by assumption)

theorem sX11_noon_49 (τ : Nat) : ∀ (n : Nat) (σ : S2) (x2 : Int32) (x3 : Int32) (x5 : Int32) (x6 : Int32), IvC 0 τ σ → 0 ≤ x2.toInt → x2.toInt ≤ 9999 → 0 ≤ x3.toInt → x3.toInt ≤ 9999 → 0 ≤ x5.toInt → x5.toInt ≤ 63 → 1 ≤ x6.toInt → x6.toInt ≤ 64 → 64 - x6.toInt < (n : Int) → Ok (fun z => (-2) ≤ z.toInt ∧ z.toInt ≤ 63) (fX11_noon_49 τ n σ x2 x3 x5 x6) := by
  have hFU : ((FU : Nat) : Int) = 100000 := rfl
  intro n
  induction n with
  | zero => intro σ x2 x3 x5 x6 hI p9000 p9001 p9002 p9003 p9004 p9005 p9006 p9007 hm; exfalso; omega
  | succ n ih =>
    intro σ x2 x3 x5 x6 hI p9000 p9001 p9002 p9003 p9004 p9005 p9006 p9007 hm
    unfold fX11_noon_49
    refine ok_lt (fun h1 => ?_) (fun h1 => ?_)
    · have : ((-2) : Int32).toInt = (-2) := by decide
      exact ok_some ⟨by show (-2) ≤ ((-2) : Int32).toInt; omega, by show ((-2) : Int32).toInt ≤ 63; omega⟩
    · refine ok_bi (sX11_upward τ σ x2 x6 hI (by omega) (by omega) (by omega) (by omega)) (fun r1 hr2 => ?_)
      have := i32_rng r1
      refine ok_lt (fun h3 => ?_) (fun h3 => ?_)
      · have : (1 : Int32).toInt = 1 := by decide
        have : ((x6 + 1) : Int32).toInt = (x6 : Int32).toInt + (1 : Int32).toInt := i32_add (by omega) (by omega)
        refine ok_nmI (fun v3 hv3 he4 => ?_)
        exact ih σ x2 x3 x5 v3 hI (by omega) (by omega) (by omega) (by omega) (by omega) (by omega) (by omega) (by omega) (by omega)
      · exact ok_some ⟨by show (-2) ≤ x6.toInt; omega, by show x6.toInt ≤ 63; omega⟩

theorem sX11_noon_0 (τ : Nat) (σ : S2) (x1 : Int32) (x2 : Int32) (x3 : Int32) (hI : IvC 0 τ σ)   : Ok (fun z => (-2) ≤ z.toInt ∧ z.toInt ≤ 63) (fX11_noon_0 τ σ x1 x2 x3) := by
  have hFU : ((FU : Nat) : Int) = 100000 := rfl
  unfold fX11_noon_0
  have := i32_rng x1
  refine ok_bt hI ?_ (fun b5 hb1 => ?_)
  · have : ((-1) : Int32).toInt = (-1) := by decide
    exact ok_some ⟨by show (-2) ≤ ((-1) : Int32).toInt; omega, by show ((-1) : Int32).toInt ≤ 63; omega⟩
  · have := i32_rng x2
    have : (0 : Int32).toInt = 0 := by decide
    refine ok_lt (fun h2 => ?_) (fun h2 => ?_)
    · have : ((-1) : Int32).toInt = (-1) := by decide
      exact ok_some ⟨by show (-2) ≤ ((-1) : Int32).toInt; omega, by show ((-1) : Int32).toInt ≤ 63; omega⟩
    · have : (9999 : Int32).toInt = 9999 := by decide
      refine ok_lt (fun h3 => ?_) (fun h3 => ?_)
      · have : ((-1) : Int32).toInt = (-1) := by decide
        exact ok_some ⟨by show (-2) ≤ ((-1) : Int32).toInt; omega, by show ((-1) : Int32).toInt ≤ 63; omega⟩
      · have := i32_rng x3
        refine ok_lt (fun h4 => ?_) (fun h4 => ?_)
        · have : ((-1) : Int32).toInt = (-1) := by decide
          exact ok_some ⟨by show (-2) ≤ ((-1) : Int32).toInt; omega, by show ((-1) : Int32).toInt ≤ 63; omega⟩
        · refine ok_le (fun h5 => ?_) (fun h5 => ?_)
          · have := i32_rng (σ.1 (182 + (6 * b5)) 0)
            refine ok_bi (sJ6_bitCount_0f7a4 τ σ (σ.1 (182 + (6 * b5)) 0) hI) (fun r6 hr6 => ?_)
            obtain ⟨p7, p8⟩ := hr6
            have p7 : 0 ≤ r6.toInt := p7
            have p8 : r6.toInt ≤ 63 := p8
            have : (1 : Int32).toInt = 1 := by decide
            exact sX11_noon_49 τ FU σ x2 x3 r6 1 hI (by omega) (by omega) (by omega) (by omega) (by omega) (by omega) (by omega) (by omega) (by omega)
          · have : ((-1) : Int32).toInt = (-1) := by decide
            exact ok_some ⟨by show (-2) ≤ ((-1) : Int32).toInt; omega, by show ((-1) : Int32).toInt ≤ 63; omega⟩

theorem sX11_noon (τ : Nat) (σ : S2) (a1 : Int32) (a2 : Int32) (a3 : Int32) (hI : IvC 0 τ σ)   : Ok (fun z => (-2) ≤ z.toInt ∧ z.toInt ≤ 63) (fX11_noon τ σ a1 a2 a3) := by
  unfold fX11_noon
  exact sX11_noon_0 τ σ a1 a2 a3 hI

theorem sX11_lies_0 (τ : Nat) (σ : S2) (x1 : Int32) (x2 : Int32) (x3 : Int32) (x4 : Int32) (hI : IvC 0 τ σ)   : Ok (fun z => True) (fX11_lies_0 τ σ x1 x2 x3 x4) := by
  have hFU : ((FU : Nat) : Int) = 100000 := rfl
  unfold fX11_lies_0
  have := i32_rng x1
  refine ok_bi (sX2_has τ σ x1 hI) (fun r1 hr1 => ?_)
  obtain ⟨p2, p3, p4⟩ := hr1
  have p2 : 0 ≤ r1.toInt := p2
  have p3 : r1.toInt ≤ 1 := p3
  have p4 : r1.toInt ≠ 0 → 0 ≤ x1.toInt ∧ x1.toInt < (σ.1 7 5).toInt := p4
  have : 0 ≤ (σ.1 7 5).toInt ∧ (σ.1 7 5).toInt ≤ 12 := hI.1 7 5
  have : (0 : Int32).toInt = 0 := by decide
  refine ok_eq (fun h5 => ?_) (fun h5 => ?_)
  · have : ((-1) : Int32).toInt = (-1) := by decide
    exact ok_some trivial
  · have := i32_rng x2
    refine ok_lt (fun h6 => ?_) (fun h6 => ?_)
    · have : ((-1) : Int32).toInt = (-1) := by decide
      exact ok_some trivial
    · have := i32_rng x3
      have : (1 : Int32).toInt = 1 := by decide
      refine ok_lt (fun h7 => ?_) (fun h7 => ?_)
      · have : ((-1) : Int32).toInt = (-1) := by decide
        exact ok_some trivial
      · have : (99 : Int32).toInt = 99 := by decide
        refine ok_le (fun h8 => ?_) (fun h8 => ?_)
        · refine ok_lt (fun h9 => ?_) (fun h9 => ?_)
          · have : ((-1) : Int32).toInt = (-1) := by decide
            exact ok_some trivial
          · have := i32_rng x4
            refine ok_lt (fun h10 => ?_) (fun h10 => ?_)
            · have : ((-1) : Int32).toInt = (-1) := by decide
              exact ok_some trivial
            · refine ok_le (fun h11 => ?_) (fun h11 => ?_)
              · refine ok_ck (by omega) (by omega) ?_
                have : 0 ≤ (σ.1 10 (Int32.toNatClampNeg x1)).toInt ∧ (σ.1 10 (Int32.toNatClampNeg x1)).toInt ≤ 8 := hI.1 10 (Int32.toNatClampNeg x1)
                refine ok_nmI (fun v3 hv3 he12 => ?_)
                have : (x3 - x2).toInt = x3.toInt - x2.toInt := i32_sub (by omega) (by omega)
                have := i32_mulB (a := v3) (b := x3 - x2) 8 99 (by omega) (by omega) (by omega) (by omega) (by omega)
                have : ((x3 - x2) : Int32).toInt = (x3 : Int32).toInt - (x2 : Int32).toInt := i32_sub (by omega) (by omega)
                have : -792 ≤ ((v3 * (x3 - x2)) : Int32).toInt ∧ ((v3 * (x3 - x2)) : Int32).toInt ≤ 792 := i32_mulS 8 99 (by omega) (by omega) (by omega) (by omega) (by omega)
                refine ok_bi (sX11_upward τ σ (v3 * (x3 - x2)) x3 hI (by omega) (by omega) (by omega) (by omega)) (fun r4 hr13 => ?_)
                have := i32_rng r4
                have := i32_iflt (1 : Int32) r4 r4 (1 : Int32)
                refine ok_nmI (fun v6 hv6 he14 => ?_)
                refine ok_eq (fun h15 => ?_) (fun h15 => ?_)
                · have := i32_rng v6
                  exact ok_some trivial
                · have : (4 : Int32).toInt = 4 := by decide
                  have := i32_rng v6
                  have : ((v3 - v6) : Int32).toInt = (v3 : Int32).toInt - (v6 : Int32).toInt := i32_sub (by omega) (by omega)
                  have := i32_rng (4 * (v3 - v6))
                  exact ok_some trivial
              · have : ((-1) : Int32).toInt = (-1) := by decide
                exact ok_some trivial
        · have : ((-1) : Int32).toInt = (-1) := by decide
          exact ok_some trivial

theorem sX11_lies (τ : Nat) (σ : S2) (a1 : Int32) (a2 : Int32) (a3 : Int32) (a4 : Int32) (hI : IvC 0 τ σ)   : Ok (fun z => True) (fX11_lies τ σ a1 a2 a3 a4) := by
  unfold fX11_lies
  exact sX11_lies_0 τ σ a1 a2 a3 a4 hI

theorem sX11_comes_0 (τ : Nat) (σ : S2) (x1 : Int32) (hI : IvC 0 τ σ)   : Ok (fun z => IvC 0 τ z.2 ∧ (-3) ≤ z.1.toInt ∧ z.1.toInt ≤ 5) (fX11_comes_0 τ σ x1) := by
  have hFU : ((FU : Nat) : Int) = 100000 := rfl
  unfold fX11_comes_0
  have := i32_rng x1
  refine ok_bi (sX2_has τ σ x1 hI) (fun r1 hr1 => ?_)
  obtain ⟨p2, p3, p4⟩ := hr1
  have p2 : 0 ≤ r1.toInt := p2
  have p3 : r1.toInt ≤ 1 := p3
  have p4 : r1.toInt ≠ 0 → 0 ≤ x1.toInt ∧ x1.toInt < (σ.1 7 5).toInt := p4
  have : 0 ≤ (σ.1 7 5).toInt ∧ (σ.1 7 5).toInt ≤ 12 := hI.1 7 5
  have : (0 : Int32).toInt = 0 := by decide
  refine ok_eq (fun h5 => ?_) (fun h5 => ?_)
  · have : ((-1) : Int32).toInt = (-1) := by decide
    exact ok_some ⟨hI, by show (-3) ≤ ((-1) : Int32).toInt; omega, by show ((-1) : Int32).toInt ≤ 5; omega⟩
  · refine ok_bi (sX5_isTold τ σ x1 hI (by omega) (by omega)) (fun r3 hr6 => ?_)
    obtain ⟨p7, p8⟩ := hr6
    have p7 : 0 ≤ r3.toInt := p7
    have p8 : r3.toInt ≤ 1 := p8
    refine ok_eq (fun h9 => ?_) (fun h9 => ?_)
    · have : 0 ≤ (σ.1 27 1).toInt ∧ (σ.1 27 1).toInt ≤ 5 := hI.1 27 1
      have : (5 : Int32).toInt = 5 := by decide
      refine ok_lt (fun h10 => ?_) (fun h10 => ?_)
      · refine ok_ck (by omega) (by omega) ?_
        refine ok_nm (fun σ5 hs11 => ?_)
        have hI12 : IvC 0 τ σ5 := by rw [hs11]; exact IvC.wF hI (by decide) (by omega) (show 0 ≤ (x1 : Int32).toInt by omega) (show (x1 : Int32).toInt ≤ 11 by omega)
        have : (σ5.1 27 1).toInt = (σ.1 27 1).toInt := by rw [hs11]; rfl
        have : 0 ≤ (σ5.1 27 1).toInt ∧ (σ5.1 27 1).toInt ≤ 5 := hI12.1 27 1
        have : (1 : Int32).toInt = 1 := by decide
        have : (((σ5.1 27 1) + 1) : Int32).toInt = ((σ5.1 27 1) : Int32).toInt + (1 : Int32).toInt := i32_add (by omega) (by omega)
        refine ok_nm (fun σ6 hs13 => ?_)
        have hI14 : IvC 0 τ σ6 := by rw [hs13]; exact IvC.wF hI12 (by decide) (by omega) (show 0 ≤ (((σ5.1 27 1) + 1) : Int32).toInt by omega) (show (((σ5.1 27 1) + 1) : Int32).toInt ≤ 5 by omega)
        have : (σ6.1 27 1).toInt = (((σ5.1 27 1) + 1) : Int32).toInt := by rw [hs13]; rfl
        have : 0 ≤ (σ6.1 27 1).toInt ∧ (σ6.1 27 1).toInt ≤ 5 := hI14.1 27 1
        exact ok_some ⟨hI14, by show (-3) ≤ (σ6.1 27 1).toInt; omega, by show (σ6.1 27 1).toInt ≤ 5; omega⟩
      · have : ((-3) : Int32).toInt = (-3) := by decide
        exact ok_some ⟨hI, by show (-3) ≤ ((-3) : Int32).toInt; omega, by show ((-3) : Int32).toInt ≤ 5; omega⟩
    · have : ((-1) : Int32).toInt = (-1) := by decide
      exact ok_some ⟨hI, by show (-3) ≤ ((-1) : Int32).toInt; omega, by show ((-1) : Int32).toInt ≤ 5; omega⟩

theorem sX11_comes (τ : Nat) (σ : S2) (a1 : Int32) (hI : IvC 0 τ σ)   : Ok (fun z => IvC 0 τ z.2 ∧ (-3) ≤ z.1.toInt ∧ z.1.toInt ≤ 5) (fX11_comes τ σ a1) := by
  unfold fX11_comes
  exact sX11_comes_0 τ σ a1 hI

theorem sX11_order_0 (τ : Nat) (σ : S2) (x1 : Int32) (hI : IvC 0 τ σ)   : Ok (fun z => IvC 0 τ z.2) (fX11_order_0 τ σ x1) := by
  have hFU : ((FU : Nat) : Int) = 100000 := rfl
  unfold fX11_order_0
  have := i32_rng x1
  refine ok_bt hI ?_ (fun b2 hb1 => ?_)
  · have : ((-1) : Int32).toInt = (-1) := by decide
    exact ok_some hI
  · have : 0 ≤ (σ.1 27 1).toInt ∧ (σ.1 27 1).toInt ≤ 5 := hI.1 27 1
    have : (0 : Int32).toInt = 0 := by decide
    refine ok_eq (fun h2 => ?_) (fun h2 => ?_)
    · have : ((-1) : Int32).toInt = (-1) := by decide
      exact ok_some hI
    · refine ok_bs (sX5_leastFrom τ b2 σ hI) (fun r3 σ4 hr3 => ?_)
      have hr3 : IvC 0 τ σ4 := hr3
      have := i32_rng r3
      have : ((-1) : Int32).toInt = (-1) := by decide
      refine ok_eq (fun h5 => ?_) (fun h5 => ?_)
      · have : ((-2) : Int32).toInt = (-2) := by decide
        exact ok_some hr3
      · exact ok_some hr3

theorem sX11_order (τ : Nat) (σ : S2) (a1 : Int32) (hI : IvC 0 τ σ)   : Ok (fun z => IvC 0 τ z.2) (fX11_order τ σ a1) := by
  unfold fX11_order
  exact sX11_order_0 τ σ a1 hI

theorem sX11_ordered_0 (τ : Nat) (σ : S2) (x1 : Int32) (hI : IvC 0 τ σ)   : Ok (fun z => (-1) ≤ z.toInt ∧ z.toInt ≤ 4) (fX11_ordered_0 τ σ x1) := by
  have hFU : ((FU : Nat) : Int) = 100000 := rfl
  unfold fX11_ordered_0
  have := i32_rng x1
  have : (0 : Int32).toInt = 0 := by decide
  refine ok_lt (fun h1 => ?_) (fun h1 => ?_)
  · have : ((-1) : Int32).toInt = (-1) := by decide
    exact ok_some ⟨by show (-1) ≤ ((-1) : Int32).toInt; omega, by show ((-1) : Int32).toInt ≤ 4; omega⟩
  · have : 0 ≤ (σ.1 27 3).toInt ∧ (σ.1 27 3).toInt ≤ 5 := hI.1 27 3
    refine ok_le (fun h2 => ?_) (fun h2 => ?_)
    · have : ((-1) : Int32).toInt = (-1) := by decide
      exact ok_some ⟨by show (-1) ≤ ((-1) : Int32).toInt; omega, by show ((-1) : Int32).toInt ≤ 4; omega⟩
    · refine ok_ck (by omega) (by omega) ?_
      have : 0 ≤ (σ.1 29 (Int32.toNatClampNeg x1)).toInt ∧ (σ.1 29 (Int32.toNatClampNeg x1)).toInt ≤ 4 := hI.1 29 (Int32.toNatClampNeg x1)
      refine ok_nmI (fun v1 hv1 he3 => ?_)
      exact ok_some ⟨by show (-1) ≤ v1.toInt; omega, by show v1.toInt ≤ 4; omega⟩

theorem sX11_ordered (τ : Nat) (σ : S2) (a1 : Int32) (hI : IvC 0 τ σ)   : Ok (fun z => (-1) ≤ z.toInt ∧ z.toInt ≤ 4) (fX11_ordered τ σ a1) := by
  unfold fX11_ordered
  exact sX11_ordered_0 τ σ a1 hI

theorem sX11_turning_0 (τ : Nat) (σ : S2) (x1 : Int32) (hI : IvC 0 τ σ)   : Ok (fun z => IvC 0 τ z.2 ∧ (-3) ≤ z.1.toInt ∧ z.1.toInt ≤ 6) (fX11_turning_0 τ σ x1) := by
  have hFU : ((FU : Nat) : Int) = 100000 := rfl
  unfold fX11_turning_0
  have : 0 ≤ (σ.1 32 1).toInt ∧ (σ.1 32 1).toInt ≤ 6 := hI.1 32 1
  have : (6 : Int32).toInt = 6 := by decide
  refine ok_lt (fun h1 => ?_) (fun h1 => ?_)
  · refine ok_ck (by omega) (by omega) ?_
    have := i32_rng x1
    refine ok_nm (fun σ1 hs2 => ?_)
    have hI3 : IvC 0 τ σ1 := by rw [hs2]; exact IvC.wF hI (by decide) (by omega) (i32_rng _).1 (i32_rng _).2
    have : (σ1.1 32 1).toInt = (σ.1 32 1).toInt := by rw [hs2]; rfl
    have : 0 ≤ (σ1.1 32 1).toInt ∧ (σ1.1 32 1).toInt ≤ 6 := hI3.1 32 1
    have : (1 : Int32).toInt = 1 := by decide
    have : (((σ1.1 32 1) + 1) : Int32).toInt = ((σ1.1 32 1) : Int32).toInt + (1 : Int32).toInt := i32_add (by omega) (by omega)
    refine ok_nm (fun σ2 hs4 => ?_)
    have hI5 : IvC 0 τ σ2 := by rw [hs4]; exact IvC.wF hI3 (by decide) (by omega) (show 0 ≤ (((σ1.1 32 1) + 1) : Int32).toInt by omega) (show (((σ1.1 32 1) + 1) : Int32).toInt ≤ 6 by omega)
    have : (σ2.1 32 1).toInt = (((σ1.1 32 1) + 1) : Int32).toInt := by rw [hs4]; rfl
    have : 0 ≤ (σ2.1 32 1).toInt ∧ (σ2.1 32 1).toInt ≤ 6 := hI5.1 32 1
    exact ok_some ⟨hI5, by show (-3) ≤ (σ2.1 32 1).toInt; omega, by show (σ2.1 32 1).toInt ≤ 6; omega⟩
  · have : ((-3) : Int32).toInt = (-3) := by decide
    exact ok_some ⟨hI, by show (-3) ≤ ((-3) : Int32).toInt; omega, by show ((-3) : Int32).toInt ≤ 6; omega⟩

theorem sX11_turning (τ : Nat) (σ : S2) (a1 : Int32) (hI : IvC 0 τ σ)   : Ok (fun z => IvC 0 τ z.2 ∧ (-3) ≤ z.1.toInt ∧ z.1.toInt ≤ 6) (fX11_turning τ σ a1) := by
  unfold fX11_turning
  exact sX11_turning_0 τ σ a1 hI

theorem sX11_harm_0 (τ : Nat) (σ : S2) (x1 : Int32) (hI : IvC 0 τ σ)   : Ok (fun z => IvC 0 τ z.2 ∧ (-1) ≤ z.1.toInt ∧ z.1.toInt ≤ 5) (fX11_harm_0 τ σ x1) := by
  have hFU : ((FU : Nat) : Int) = 100000 := rfl
  unfold fX11_harm_0
  have := i32_rng x1
  refine ok_bt hI ?_ (fun b2 hb1 => ?_)
  · have : ((-1) : Int32).toInt = (-1) := by decide
    exact ok_some ⟨hI, by show (-1) ≤ ((-1) : Int32).toInt; omega, by show ((-1) : Int32).toInt ≤ 5; omega⟩
  · have : 0 ≤ (σ.1 32 1).toInt ∧ (σ.1 32 1).toInt ≤ 6 := hI.1 32 1
    have : (0 : Int32).toInt = 0 := by decide
    refine ok_eq (fun h2 => ?_) (fun h2 => ?_)
    · have : ((-1) : Int32).toInt = (-1) := by decide
      exact ok_some ⟨hI, by show (-1) ≤ ((-1) : Int32).toInt; omega, by show ((-1) : Int32).toInt ≤ 5; omega⟩
    · refine ok_bs (sX10_leastHarm τ b2 σ hI) (fun r3 σ4 hr3 => ?_)
      obtain ⟨p4, p5, p6⟩ := hr3
      have p4 : IvC 0 τ σ4 := p4
      have p5 : (-1) ≤ r3.toInt := p5
      have p6 : r3.toInt ≤ 5 := p6
      exact ok_some ⟨p4, by show (-1) ≤ r3.toInt; omega, by show r3.toInt ≤ 5; omega⟩

theorem sX11_harm (τ : Nat) (σ : S2) (a1 : Int32) (hI : IvC 0 τ σ)   : Ok (fun z => IvC 0 τ z.2 ∧ (-1) ≤ z.1.toInt ∧ z.1.toInt ≤ 5) (fX11_harm τ σ a1) := by
  unfold fX11_harm
  exact sX11_harm_0 τ σ a1 hI

theorem sX11_harmed_0 (τ : Nat) (σ : S2) (hI : IvC 0 τ σ)   : Ok (fun z => True) (fX11_harmed_0 τ σ) := by
  have hFU : ((FU : Nat) : Int) = 100000 := rfl
  unfold fX11_harmed_0
  have := i32_rng (σ.1 32 2)
  have : ((-1) : Int32).toInt = (-1) := by decide
  refine ok_eq (fun h1 => ?_) (fun h1 => ?_)
  · exact ok_some trivial
  · exact ok_some trivial

theorem sX11_harmed (τ : Nat) (σ : S2) (hI : IvC 0 τ σ)   : Ok (fun z => True) (fX11_harmed τ σ) := by
  unfold fX11_harmed
  exact sX11_harmed_0 τ σ hI

theorem sX11_act_0 (τ : Nat) (σ : S2) (x1 : Int32) (x2 : Int32) (x3 : Int32) (hI : IvC 0 τ σ)   : Ok (fun z => IvC 0 τ z.2) (fX11_act_0 τ σ x1 x2 x3) := by
  have hFU : ((FU : Nat) : Int) = 100000 := rfl
  unfold fX11_act_0
  have : (0 : Int32).toInt = 0 := by decide
  refine ok_nm (fun σ1 hs1 => ?_)
  have hI2 : IvC 0 τ σ1 := by rw [hs1]; exact IvC.wF hI (by decide) (by omega) (show 0 ≤ (0 : Int32).toInt by omega) (show (0 : Int32).toInt ≤ 1000 by omega)
  have : (σ1.1 35 1).toInt = (0 : Int32).toInt := by rw [hs1]; rfl
  have := i32_rng x1
  refine ok_bi (sX2_has τ σ1 x1 hI2) (fun r2 hr3 => ?_)
  obtain ⟨p4, p5, p6⟩ := hr3
  have p4 : 0 ≤ r2.toInt := p4
  have p5 : r2.toInt ≤ 1 := p5
  have p6 : r2.toInt ≠ 0 → 0 ≤ x1.toInt ∧ x1.toInt < (σ1.1 7 5).toInt := p6
  have : 0 ≤ (σ1.1 7 5).toInt ∧ (σ1.1 7 5).toInt ≤ 12 := hI2.1 7 5
  refine ok_eq (fun h7 => ?_) (fun h7 => ?_)
  · exact ok_some hI2
  · refine ok_ck (by omega) (by omega) ?_
    have : 0 ≤ (σ1.1 10 (Int32.toNatClampNeg x1)).toInt ∧ (σ1.1 10 (Int32.toNatClampNeg x1)).toInt ≤ 8 := hI2.1 10 (Int32.toNatClampNeg x1)
    refine ok_nmI (fun v4 hv4 he8 => ?_)
    refine ok_ck (by omega) (by omega) ?_
    have : 0 ≤ (σ1.1 8 (Int32.toNatClampNeg x1)).toInt ∧ (σ1.1 8 (Int32.toNatClampNeg x1)).toInt ≤ 6 := hI2.1 8 (Int32.toNatClampNeg x1)
    refine ok_nmI (fun v5 hv5 he9 => ?_)
    have := i32_rng x2
    have := i32_rng x3
    have : 0 ≤ (σ1.1 35 1).toInt ∧ (σ1.1 35 1).toInt ≤ 1000 := hI2.1 35 1
    refine ok_bs (sX0_run τ σ1 x1 v4 v5 x2 x3 hI2 (by omega) (by omega) (by omega) (by omega) (by omega) (by omega) (by omega) (by omega)) (fun r6 σ7 hr10 => ?_)
    have hr10 : IvC 0 τ σ7 := hr10
    have := i32_rng r6
    exact ok_some hr10

theorem sX11_act (τ : Nat) (σ : S2) (a1 : Int32) (a2 : Int32) (a3 : Int32) (hI : IvC 0 τ σ)   : Ok (fun z => IvC 0 τ z.2) (fX11_act τ σ a1 a2 a3) := by
  unfold fX11_act
  exact sX11_act_0 τ σ a1 a2 a3 hI

theorem sX11_trace_0 (τ : Nat) (σ : S2) (x1 : Int32) (hI : IvC 0 τ σ)   : Ok (fun z => (-1) ≤ z.toInt ∧ z.toInt ≤ 71) (fX11_trace_0 τ σ x1) := by
  have hFU : ((FU : Nat) : Int) = 100000 := rfl
  unfold fX11_trace_0
  have := i32_rng x1
  have : (0 : Int32).toInt = 0 := by decide
  refine ok_lt (fun h1 => ?_) (fun h1 => ?_)
  · have : ((-1) : Int32).toInt = (-1) := by decide
    exact ok_some ⟨by show (-1) ≤ ((-1) : Int32).toInt; omega, by show ((-1) : Int32).toInt ≤ 71; omega⟩
  · have : 0 ≤ (σ.1 35 1).toInt ∧ (σ.1 35 1).toInt ≤ 1000 := hI.1 35 1
    refine ok_le (fun h2 => ?_) (fun h2 => ?_)
    · have : ((-1) : Int32).toInt = (-1) := by decide
      exact ok_some ⟨by show (-1) ≤ ((-1) : Int32).toInt; omega, by show ((-1) : Int32).toInt ≤ 71; omega⟩
    · have : (24 : Int32).toInt = 24 := by decide
      refine ok_le (fun h3 => ?_) (fun h3 => ?_)
      · have : ((-1) : Int32).toInt = (-1) := by decide
        exact ok_some ⟨by show (-1) ≤ ((-1) : Int32).toInt; omega, by show ((-1) : Int32).toInt ≤ 71; omega⟩
      · refine ok_ck (by omega) (by omega) ?_
        have : 0 ≤ (σ.1 36 (Int32.toNatClampNeg x1)).toInt ∧ (σ.1 36 (Int32.toNatClampNeg x1)).toInt ≤ 71 := hI.1 36 (Int32.toNatClampNeg x1)
        refine ok_nmI (fun v1 hv1 he4 => ?_)
        exact ok_some ⟨by show (-1) ≤ v1.toInt; omega, by show v1.toInt ≤ 71; omega⟩

theorem sX11_trace (τ : Nat) (σ : S2) (a1 : Int32) (hI : IvC 0 τ σ)   : Ok (fun z => (-1) ≤ z.toInt ∧ z.toInt ≤ 71) (fX11_trace τ σ a1) := by
  unfold fX11_trace
  exact sX11_trace_0 τ σ a1 hI

theorem sX11_isShelf_0 (τ : Nat) (σ : S2) (x0 : Int32) (hI : IvC 0 τ σ)   : Ok (fun z => 0 ≤ z.toInt ∧ z.toInt ≤ 1 ∧ (z.toInt ≠ 0 → 0 ≤ x0.toInt ∧ x0.toInt ≤ 5)) (fX11_isShelf_0 τ σ x0) := by
  have hFU : ((FU : Nat) : Int) = 100000 := rfl
  unfold fX11_isShelf_0
  have := i32_rng x0
  have : (0 : Int32).toInt = 0 := by decide
  refine ok_lt (fun h1 => ?_) (fun h1 => ?_)
  · exact ok_some ⟨by show 0 ≤ (0 : Int32).toInt; omega, by show (0 : Int32).toInt ≤ 1; omega, by show (0 : Int32).toInt ≠ 0 → 0 ≤ x0.toInt ∧ x0.toInt ≤ 5; omega⟩
  · have : (6 : Int32).toInt = 6 := by decide
    refine ok_le (fun h2 => ?_) (fun h2 => ?_)
    · exact ok_some ⟨by show 0 ≤ (0 : Int32).toInt; omega, by show (0 : Int32).toInt ≤ 1; omega, by show (0 : Int32).toInt ≠ 0 → 0 ≤ x0.toInt ∧ x0.toInt ≤ 5; omega⟩
    · have : (1 : Int32).toInt = 1 := by decide
      exact ok_some ⟨by show 0 ≤ (1 : Int32).toInt; omega, by show (1 : Int32).toInt ≤ 1; omega, by show (1 : Int32).toInt ≠ 0 → 0 ≤ x0.toInt ∧ x0.toInt ≤ 5; omega⟩

theorem sX11_isShelf (τ : Nat) (σ : S2) (a0 : Int32) (hI : IvC 0 τ σ)   : Ok (fun z => 0 ≤ z.toInt ∧ z.toInt ≤ 1 ∧ (z.toInt ≠ 0 → 0 ≤ a0.toInt ∧ a0.toInt ≤ 5)) (fX11_isShelf τ σ a0) := by
  unfold fX11_isShelf
  exact sX11_isShelf_0 τ σ a0 hI

theorem sX11_keep_25 (τ : Nat) (σ : S2) (x1 : Int32) (x2 : Int32) (hI : IvC 0 τ σ) (p9000 : 0 ≤ x1.toInt) (p9001 : x1.toInt ≤ 5) (p9002 : (-1) ≤ x2.toInt) (p9003 : x2.toInt ≤ 11)  : Ok (fun z => IvC 0 τ z.2 ∧ (-1) ≤ z.1.toInt ∧ z.1.toInt ≤ 1) (fX11_keep_25 τ σ x1 x2) := by
  have hFU : ((FU : Nat) : Int) = 100000 := rfl
  unfold fX11_keep_25
  refine ok_bs (sX7_holdKeeper τ σ x1 x2 hI (by omega) (by omega) (by omega) (by omega)) (fun r1 σ2 hr1 => ?_)
  have hr1 : IvC 0 τ σ2 := hr1
  have : (1 : Int32).toInt = 1 := by decide
  exact ok_some ⟨hr1, by show (-1) ≤ (1 : Int32).toInt; omega, by show (1 : Int32).toInt ≤ 1; omega⟩

theorem sX11_keep_0 (τ : Nat) (σ : S2) (x1 : Int32) (x2 : Int32) (hI : IvC 0 τ σ)   : Ok (fun z => IvC 0 τ z.2 ∧ (-1) ≤ z.1.toInt ∧ z.1.toInt ≤ 1) (fX11_keep_0 τ σ x1 x2) := by
  have hFU : ((FU : Nat) : Int) = 100000 := rfl
  unfold fX11_keep_0
  have := i32_rng x1
  refine ok_bi (sX11_isShelf τ σ x1 hI) (fun r4 hr1 => ?_)
  obtain ⟨p2, p3, p4⟩ := hr1
  have p2 : 0 ≤ r4.toInt := p2
  have p3 : r4.toInt ≤ 1 := p3
  have p4 : r4.toInt ≠ 0 → 0 ≤ x1.toInt ∧ x1.toInt ≤ 5 := p4
  have : (0 : Int32).toInt = 0 := by decide
  refine ok_eq (fun h5 => ?_) (fun h5 => ?_)
  · have : ((-1) : Int32).toInt = (-1) := by decide
    exact ok_some ⟨hI, by show (-1) ≤ ((-1) : Int32).toInt; omega, by show ((-1) : Int32).toInt ≤ 1; omega⟩
  · have := i32_rng x2
    have : ((-1) : Int32).toInt = (-1) := by decide
    refine ok_eq (fun h6 => ?_) (fun h6 => ?_)
    · exact sX11_keep_25 τ σ x1 x2 hI (by omega) (by omega) (by omega) (by omega)
    · refine ok_bi (sX2_has τ σ x2 hI) (fun r6 hr7 => ?_)
      obtain ⟨p8, p9, p10⟩ := hr7
      have p8 : 0 ≤ r6.toInt := p8
      have p9 : r6.toInt ≤ 1 := p9
      have p10 : r6.toInt ≠ 0 → 0 ≤ x2.toInt ∧ x2.toInt < (σ.1 7 5).toInt := p10
      have : 0 ≤ (σ.1 7 5).toInt ∧ (σ.1 7 5).toInt ≤ 12 := hI.1 7 5
      refine ok_eq (fun h11 => ?_) (fun h11 => ?_)
      · exact ok_some ⟨hI, by show (-1) ≤ ((-1) : Int32).toInt; omega, by show ((-1) : Int32).toInt ≤ 1; omega⟩
      · exact sX11_keep_25 τ σ x1 x2 hI (by omega) (by omega) (by omega) (by omega)

theorem sX11_keep (τ : Nat) (σ : S2) (a1 : Int32) (a2 : Int32) (hI : IvC 0 τ σ)   : Ok (fun z => IvC 0 τ z.2 ∧ (-1) ≤ z.1.toInt ∧ z.1.toInt ≤ 1) (fX11_keep τ σ a1 a2) := by
  unfold fX11_keep
  exact sX11_keep_0 τ σ a1 a2 hI

theorem sX11_row_0 (τ : Nat) (σ : S2) (x1 : Int32) (x2 : Int32) (x3 : Int32) (hI : IvC 0 τ σ)   : Ok (fun z => IvC 0 τ z.2 ∧ (-14) ≤ z.1.toInt ∧ z.1.toInt ≤ 1) (fX11_row_0 τ σ x1 x2 x3) := by
  have hFU : ((FU : Nat) : Int) = 100000 := rfl
  unfold fX11_row_0
  have := i32_rng x1
  refine ok_bi (sX11_isShelf τ σ x1 hI) (fun r1 hr1 => ?_)
  obtain ⟨p2, p3, p4⟩ := hr1
  have p2 : 0 ≤ r1.toInt := p2
  have p3 : r1.toInt ≤ 1 := p3
  have p4 : r1.toInt ≠ 0 → 0 ≤ x1.toInt ∧ x1.toInt ≤ 5 := p4
  have : (0 : Int32).toInt = 0 := by decide
  refine ok_eq (fun h5 => ?_) (fun h5 => ?_)
  · have : ((-1) : Int32).toInt = (-1) := by decide
    exact ok_some ⟨hI, by show (-14) ≤ ((-1) : Int32).toInt; omega, by show ((-1) : Int32).toInt ≤ 1; omega⟩
  · have := i32_rng x2
    refine ok_lt (fun h6 => ?_) (fun h6 => ?_)
    · have : ((-1) : Int32).toInt = (-1) := by decide
      exact ok_some ⟨hI, by show (-14) ≤ ((-1) : Int32).toInt; omega, by show ((-1) : Int32).toInt ≤ 1; omega⟩
    · have : (4 : Int32).toInt = 4 := by decide
      refine ok_lt (fun h7 => ?_) (fun h7 => ?_)
      · have : ((-1) : Int32).toInt = (-1) := by decide
        exact ok_some ⟨hI, by show (-14) ≤ ((-1) : Int32).toInt; omega, by show ((-1) : Int32).toInt ≤ 1; omega⟩
      · have := i32_rng x3
        have : (60 : Int32).toInt = 60 := by decide
        refine ok_le (fun h8 => ?_) (fun h8 => ?_)
        · refine ok_le (fun h9 => ?_) (fun h9 => ?_)
          · refine ok_bs (sX7_holdRow τ σ x1 x2 x3 hI (by omega) (by omega) (by omega) (by omega) (by omega) (by omega)) (fun r3 σ4 hr10 => ?_)
            have hr10 : IvC 0 τ σ4 := hr10
            have : (1 : Int32).toInt = 1 := by decide
            exact ok_some ⟨hr10, by show (-14) ≤ (1 : Int32).toInt; omega, by show (1 : Int32).toInt ≤ 1; omega⟩
          · have : ((-14) : Int32).toInt = (-14) := by decide
            exact ok_some ⟨hI, by show (-14) ≤ ((-14) : Int32).toInt; omega, by show ((-14) : Int32).toInt ≤ 1; omega⟩
        · have : ((-1) : Int32).toInt = (-1) := by decide
          exact ok_some ⟨hI, by show (-14) ≤ ((-1) : Int32).toInt; omega, by show ((-1) : Int32).toInt ≤ 1; omega⟩

theorem sX11_row (τ : Nat) (σ : S2) (a1 : Int32) (a2 : Int32) (a3 : Int32) (hI : IvC 0 τ σ)   : Ok (fun z => IvC 0 τ z.2 ∧ (-14) ≤ z.1.toInt ∧ z.1.toInt ≤ 1) (fX11_row τ σ a1 a2 a3) := by
  unfold fX11_row
  exact sX11_row_0 τ σ a1 a2 a3 hI

theorem sX11_put_0 (τ : Nat) (σ : S2) (x1 : Int32) (x2 : Int32) (x3 : Int64) (hI : IvC 0 τ σ)   : Ok (fun z => IvC 0 τ z.2 ∧ (-13) ≤ z.1.toInt ∧ z.1.toInt ≤ 1) (fX11_put_0 τ σ x1 x2 x3) := by
  have hFU : ((FU : Nat) : Int) = 100000 := rfl
  unfold fX11_put_0
  have := i32_rng x1
  refine ok_bi (sX11_isShelf τ σ x1 hI) (fun r1 hr1 => ?_)
  obtain ⟨p2, p3, p4⟩ := hr1
  have p2 : 0 ≤ r1.toInt := p2
  have p3 : r1.toInt ≤ 1 := p3
  have p4 : r1.toInt ≠ 0 → 0 ≤ x1.toInt ∧ x1.toInt ≤ 5 := p4
  have : (0 : Int32).toInt = 0 := by decide
  refine ok_eq (fun h5 => ?_) (fun h5 => ?_)
  · have : ((-1) : Int32).toInt = (-1) := by decide
    exact ok_some ⟨hI, by show (-13) ≤ ((-1) : Int32).toInt; omega, by show ((-1) : Int32).toInt ≤ 1; omega⟩
  · have := i32_rng x2
    refine ok_bi (sX7_refusalAt τ σ x1 x2 hI (by omega) (by omega)) (fun r3 hr6 => ?_)
    obtain ⟨p7, p8, p9⟩ := hr6
    have p7 : (-13) ≤ r3.toInt := p7
    have p8 : r3.toInt ≤ 0 := p8
    have p9 : r3.toInt = 0 → 0 ≤ x2.toInt ∧ x2.toInt ≤ 59 := p9
    refine ok_eq (fun h10 => ?_) (fun h10 => ?_)
    · refine ok_ck (by omega) (by omega) ?_
      refine ok_ck (by omega) (by omega) ?_
      have : (-1) ≤ (σ.1 39 (Int32.toNatClampNeg x1)).toInt ∧ (σ.1 39 (Int32.toNatClampNeg x1)).toInt ≤ 4 := hI.1 39 (Int32.toNatClampNeg x1)
      refine ok_nmI (fun v6 hv6 he11 => ?_)
      refine ok_bi (sX7_lowest τ σ v6 x3 hI (by omega) (by omega)) (fun r7 hr12 => ?_)
      refine ok_ck (by omega) (by omega) ?_
      refine ok_nm (fun σ9 hs13 => ?_)
      have hI14 : IvC 0 τ σ9 := by rw [hs13]; exact IvC.wL hI
      have : (1 : Int32).toInt = 1 := by decide
      exact ok_some ⟨hI14, by show (-13) ≤ (1 : Int32).toInt; omega, by show (1 : Int32).toInt ≤ 1; omega⟩
    · exact ok_some ⟨hI, by show (-13) ≤ r3.toInt; omega, by show r3.toInt ≤ 1; omega⟩

theorem sX11_put (τ : Nat) (σ : S2) (a1 : Int32) (a2 : Int32) (a3 : Int64) (hI : IvC 0 τ σ)   : Ok (fun z => IvC 0 τ z.2 ∧ (-13) ≤ z.1.toInt ∧ z.1.toInt ≤ 1) (fX11_put τ σ a1 a2 a3) := by
  unfold fX11_put
  exact sX11_put_0 τ σ a1 a2 a3 hI

theorem sX11_element_19 (τ : Nat) (σ : S2) (hI : IvC 0 τ σ)   : Ok (fun z => True) (fX11_element_19 τ σ) := by
  have hFU : ((FU : Nat) : Int) = 100000 := rfl
  unfold fX11_element_19
  exact ok_some trivial

