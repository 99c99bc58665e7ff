theorem sX6_greatestFor_0 (τ : Nat) (b1 : Nat) (σ : S2) (x2 : Int32) (hI : IvC 0 τ σ) (p9000 : 0 ≤ x2.toInt) (p9001 : x2.toInt ≤ 39)  : Ok (fun z => IvC 0 τ z.2 ∧ 0 ≤ z.1.toInt) (fX6_greatestFor_0 τ b1 σ x2) := by
  have hFU : ((FU : Nat) : Int) = 100000 := rfl
  unfold fX6_greatestFor_0
  have := i32_rng (σ.1 (182 + (6 * b1)) 1)
  refine ok_bi (sX4_placeOf τ σ x2 (σ.1 (182 + (6 * b1)) 1) hI (by omega) (by omega)) (fun r8 hr1 => ?_)
  obtain ⟨p2, p3⟩ := hr1
  have p2 : 0 ≤ r8.toInt := p2
  have p3 : r8.toInt ≤ 999 := p3
  refine ok_bs (sX1_choose τ b1 σ r8 hI (by omega) (by omega)) (fun r10 σ11 hr4 => ?_)
  have hr4 : IvC 0 τ σ11 := hr4
  have : (0 : Int32).toInt = 0 := by decide
  exact sX6_greatestFor_25 τ b1 FU σ11 x2 0 0 hr4 (by omega) (by omega) (by omega) (by omega) (by omega) (by omega)

theorem sX6_greatestFor (τ : Nat) (b1 : Nat) (σ : S2) (a2 : Int32) (hI : IvC 0 τ σ) (p9000 : 0 ≤ a2.toInt) (p9001 : a2.toInt ≤ 39)  : Ok (fun z => IvC 0 τ z.2 ∧ 0 ≤ z.1.toInt) (fX6_greatestFor τ b1 σ a2) := by
  unfold fX6_greatestFor
  exact sX6_greatestFor_0 τ b1 σ a2 hI (by assumption) (by assumption)

theorem sX6_movePiece_22 (τ : Nat) (σ : S2) (x1 : Int32) (x2 : Int32) (hI : IvC 0 τ σ) (p9000 : 0 ≤ x1.toInt) (p9001 : x1.toInt ≤ 39) (p9002 : 0 ≤ x2.toInt) (p9003 : x2.toInt ≤ 11)  : Ok (fun z => IvC 0 τ z.2 ∧ z.1.toInt ≤ 3) (fX6_movePiece_22 τ σ x1 x2) := by
  have hFU : ((FU : Nat) : Int) = 100000 := rfl
  unfold fX6_movePiece_22
  refine ok_ck (by omega) (by omega) ?_
  refine ok_ck (by omega) (by omega) ?_
  have : (0 : Int32).toInt = 0 := by decide
  refine ok_nm (fun σ2 hs1 => ?_)
  have hI2 : IvC 0 τ σ2 := by rw [hs1]; exact IvC.wR4 hI (by have := i32_nat (i := x2) (by omega); omega) (i32_rng _).1 (i32_rng _).2
  exact ok_some ⟨hI2, by show (0 : Int32).toInt ≤ 3; omega⟩

theorem sX6_movePiece_54 (τ : Nat) (σ : S2) (x1 : Int32) (x2 : Int32) (x3 : Int32) (hI : IvC 0 τ σ) (p9000 : 0 ≤ x1.toInt) (p9001 : x1.toInt ≤ 39) (p9002 : 0 ≤ x2.toInt) (p9003 : x2.toInt ≤ 11) (p9004 : 0 ≤ x3.toInt) (p9005 : x3.toInt ≤ 11)  : Ok (fun z => IvC 0 τ z.2 ∧ z.1.toInt ≤ 3) (fX6_movePiece_54 τ σ x1 x2 x3) := by
  have hFU : ((FU : Nat) : Int) = 100000 := rfl
  unfold fX6_movePiece_54
  refine ok_ck (by omega) (by omega) ?_
  refine ok_ck (by omega) (by omega) ?_
  refine ok_nm (fun σ4 hs1 => ?_)
  have hI2 : IvC 0 τ σ4 := by rw [hs1]; exact IvC.wR5 hI (by have := i32_nat (i := x2) (by omega); omega) (i32_rng _).1 (i32_rng _).2
  refine ok_ck (by omega) (by omega) ?_
  refine ok_ck (by omega) (by omega) ?_
  have := i32_rng (σ4.1 (120 + (Int32.toNatClampNeg x2)) (Int32.toNatClampNeg x1))
  refine ok_nmI (fun v6 hv6 he3 => ?_)
  refine ok_ck (by omega) (by omega) ?_
  have := i32_rng v6
  have : (1 : Int32).toInt = 1 := by decide
  have := i32_rng (v6 + 1)
  refine ok_nm (fun σ7 hs4 => ?_)
  have hI5 : IvC 0 τ σ7 := by rw [hs4]; exact IvC.wR4 hI2 (by have := i32_nat (i := x2) (by omega); omega) (i32_rng _).1 (i32_rng _).2
  refine ok_ck (by omega) (by omega) ?_
  refine ok_ck (by omega) (by omega) ?_
  have := i32_rng (σ7.1 (120 + (Int32.toNatClampNeg x2)) (Int32.toNatClampNeg x1))
  refine ok_nmI (fun v9 hv9 he6 => ?_)
  have : (3 : Int32).toInt = 3 := by decide
  have := i32_rng v9
  refine ok_le (fun h7 => ?_) (fun h7 => ?_)
  · refine ok_ck (by omega) (by omega) ?_
    refine ok_ck (by omega) (by omega) ?_
    have := i32_rng (σ7.1 (84 + (Int32.toNatClampNeg x2)) (Int32.toNatClampNeg x1))
    refine ok_nmI (fun v11 hv11 he8 => ?_)
    have := i32_rng v11
    refine ok_bs (sX6_takesGreater τ σ7 x3 x1 v11 hI5 (by omega) (by omega) (by omega) (by omega)) (fun r12 σ13 hr9 => ?_)
    obtain ⟨p10, p11, p12⟩ := hr9
    have p10 : IvC 0 τ σ13 := p10
    have p11 : 0 ≤ r12.toInt := p11
    have p12 : r12.toInt ≤ 1 := p12
    refine ok_ck (by omega) (by omega) ?_
    refine ok_ck (by omega) (by omega) ?_
    have : (0 : Int32).toInt = 0 := by decide
    refine ok_nm (fun σ16 hs13 => ?_)
    have hI14 : IvC 0 τ σ16 := by rw [hs13]; exact IvC.wR1 p10 (by have := i32_nat (i := x2) (by omega); omega) (i32_rng _).1 (i32_rng _).2
    refine ok_ck (by omega) (by omega) ?_
    refine ok_ck (by omega) (by omega) ?_
    refine ok_nm (fun σ18 hs15 => ?_)
    have hI16 : IvC 0 τ σ18 := by rw [hs15]; exact IvC.wR4 hI14 (by have := i32_nat (i := x2) (by omega); omega) (i32_rng _).1 (i32_rng _).2
    exact ok_some ⟨hI16, by show (3 : Int32).toInt ≤ 3; omega⟩
  · refine ok_ck (by omega) (by omega) ?_
    refine ok_ck (by omega) (by omega) ?_
    refine ok_nmI (fun v20 hv20 he17 => ?_)
    have := i32_rng v20
    exact ok_some ⟨hI5, by show v20.toInt ≤ 3; omega⟩

theorem sX6_movePiece_0 (τ : Nat) (σ : S2) (x1 : Int32) (x2 : Int32) (x3 : Int32) (hI : IvC 0 τ σ) (p9000 : 0 ≤ x1.toInt) (p9001 : x1.toInt ≤ 39) (p9002 : 0 ≤ x2.toInt) (p9003 : x2.toInt ≤ 11) (p9004 : 0 ≤ x3.toInt) (p9005 : x3.toInt ≤ 11)  : Ok (fun z => IvC 0 τ z.2 ∧ z.1.toInt ≤ 3) (fX6_movePiece_0 τ σ x1 x2 x3) := by
  have hFU : ((FU : Nat) : Int) = 100000 := rfl
  unfold fX6_movePiece_0
  refine ok_bi (sX2_isUp τ σ x2 hI (by omega) (by omega)) (fun r21 hr1 => ?_)
  obtain ⟨p2, p3⟩ := hr1
  have p2 : 0 ≤ r21.toInt := p2
  have p3 : r21.toInt ≤ 1 := p3
  have : (0 : Int32).toInt = 0 := by decide
  refine ok_eq (fun h4 => ?_) (fun h4 => ?_)
  · exact sX6_movePiece_22 τ σ x1 x2 hI (by omega) (by omega) (by omega) (by omega)
  · refine ok_bi (sX2_isUp τ σ x3 hI (by omega) (by omega)) (fun r23 hr5 => ?_)
    obtain ⟨p6, p7⟩ := hr5
    have p6 : 0 ≤ r23.toInt := p6
    have p7 : r23.toInt ≤ 1 := p7
    refine ok_eq (fun h8 => ?_) (fun h8 => ?_)
    · exact sX6_movePiece_22 τ σ x1 x2 hI (by omega) (by omega) (by omega) (by omega)
    · refine ok_ck (by omega) (by omega) ?_
      refine ok_ck (by omega) (by omega) ?_
      have := i32_rng (σ.1 (132 + (Int32.toNatClampNeg x2)) (Int32.toNatClampNeg x1))
      refine ok_nmI (fun v26 hv26 he9 => ?_)
      have := i32_rng v26
      refine ok_eq (fun h10 => ?_) (fun h10 => ?_)
      · exact sX6_movePiece_54 τ σ x1 x2 x3 hI (by omega) (by omega) (by omega) (by omega) (by omega) (by omega)
      · refine ok_ck (by omega) (by omega) ?_
        refine ok_ck (by omega) (by omega) ?_
        refine ok_nm (fun σ28 hs11 => ?_)
        have hI12 : IvC 0 τ σ28 := by rw [hs11]; exact IvC.wR4 hI (by have := i32_nat (i := x2) (by omega); omega) (i32_rng _).1 (i32_rng _).2
        exact sX6_movePiece_54 τ σ28 x1 x2 x3 hI12 (by omega) (by omega) (by omega) (by omega) (by omega) (by omega)

theorem sX6_movePiece (τ : Nat) (σ : S2) (a1 : Int32) (a2 : Int32) (a3 : Int32) (hI : IvC 0 τ σ) (p9000 : 0 ≤ a1.toInt) (p9001 : a1.toInt ≤ 39) (p9002 : 0 ≤ a2.toInt) (p9003 : a2.toInt ≤ 11) (p9004 : 0 ≤ a3.toInt) (p9005 : a3.toInt ≤ 11)  : Ok (fun z => IvC 0 τ z.2 ∧ z.1.toInt ≤ 3) (fX6_movePiece τ σ a1 a2 a3) := by
  unfold fX6_movePiece
  exact sX6_movePiece_0 τ σ a1 a2 a3 hI (by assumption) (by assumption) (by assumption) (by assumption) (by assumption) (by assumption)

theorem sX6_greatestAnywhere_40 (τ : Nat) (k4 : S2 → Int32 → Int32 → Int32 → Option Int32) (σ : S2) (x1 : Int32) (x2 : Int32) (x3 : Int32) (hI : IvC 0 τ σ) (p9000 : 0 ≤ x1.toInt) (p9001 : x1.toInt ≤ 39) (p9002 : 0 ≤ x2.toInt) (p9003 : 0 ≤ x3.toInt) (p9004 : x3.toInt ≤ 11) (hk4 : ∀ (y0 : S2) (y1 : Int32) (y2 : Int32) (y3 : Int32), IvC 0 τ y0 → 0 ≤ y1.toInt → y1.toInt ≤ 39 → 0 ≤ y2.toInt → 0 ≤ y3.toInt → y3.toInt ≤ 12 → x3.toInt + 1 ≤ y3.toInt → Ok (fun z => 0 ≤ z.toInt) (k4 y0 y1 y2 y3)) : Ok (fun z => 0 ≤ z.toInt) (fX6_greatestAnywhere_40 τ k4 σ x1 x2 x3) := by
  have hFU : ((FU : Nat) : Int) = 100000 := rfl
  unfold fX6_greatestAnywhere_40
  have : (1 : Int32).toInt = 1 := by decide
  have : ((x3 + 1) : Int32).toInt = (x3 : Int32).toInt + (1 : Int32).toInt := i32_add (by omega) (by omega)
  refine ok_nmI (fun v1 hv1 he1 => ?_)
  have := i32_rng x2
  exact hk4 σ x1 x2 v1 hI (by omega) (by omega) (by omega) (by omega) (by omega) (by omega)

theorem sX6_greatestAnywhere_4 (τ : Nat) : ∀ (n : Nat) (σ : S2) (x1 : Int32) (x2 : Int32) (x3 : Int32), IvC 0 τ σ → 0 ≤ x1.toInt → x1.toInt ≤ 39 → 0 ≤ x2.toInt → 0 ≤ x3.toInt → x3.toInt ≤ 12 → 12 - x3.toInt < (n : Int) → Ok (fun z => 0 ≤ z.toInt) (fX6_greatestAnywhere_4 τ n σ x1 x2 x3) := by
  have hFU : ((FU : Nat) : Int) = 100000 := rfl
  intro n
  induction n with
  | zero => intro σ x1 x2 x3 hI p9000 p9001 p9002 p9003 p9004 hm; exfalso; omega
  | succ n ih =>
    intro σ x1 x2 x3 hI p9000 p9001 p9002 p9003 p9004 hm
    unfold fX6_greatestAnywhere_4
    have : 0 ≤ (σ.1 7 5).toInt ∧ (σ.1 7 5).toInt ≤ 12 := hI.1 7 5
    refine ok_le (fun h1 => ?_) (fun h1 => ?_)
    · have := i32_rng x2
      exact ok_some (by show 0 ≤ x2.toInt; omega)
    · refine ok_ck (by omega) (by omega) ?_
      have : 0 ≤ (σ.1 12 (Int32.toNatClampNeg x3)).toInt ∧ (σ.1 12 (Int32.toNatClampNeg x3)).toInt ≤ 1 := hI.1 12 (Int32.toNatClampNeg x3)
      refine ok_nmI (fun v2 hv2 he2 => ?_)
      have : (0 : Int32).toInt = 0 := by decide
      refine ok_eq (fun h3 => ?_) (fun h3 => ?_)
      · refine ok_ck (by omega) (by omega) ?_
        refine ok_ck (by omega) (by omega) ?_
        have := i32_rng (σ.1 (84 + (Int32.toNatClampNeg x3)) (Int32.toNatClampNeg x1))
        refine ok_nmI (fun v4 hv4 he4 => ?_)
        have := i32_rng x2
        have := i32_rng v4
        have := i32_iflt x2 v4 v4 x2
        refine ok_nmI (fun v5 hv5 he5 => ?_)
        have := i32_rng v5
        exact sX6_greatestAnywhere_40 τ (fX6_greatestAnywhere_4 τ n) σ x1 v5 x3 hI (by omega) (by omega) (by omega) (by omega) (by omega) (fun y0 y1 y2 y3 q0 q1 q2 q3 q4 q5 q6 => ih y0 y1 y2 y3 q0 q1 q2 q3 q4 q5 (by omega))
      · have := i32_rng x2
        exact sX6_greatestAnywhere_40 τ (fX6_greatestAnywhere_4 τ n) σ x1 x2 x3 hI (by omega) (by omega) (by omega) (by omega) (by omega) (fun y0 y1 y2 y3 q0 q1 q2 q3 q4 q5 q6 => ih y0 y1 y2 y3 q0 q1 q2 q3 q4 q5 (by omega))

theorem sX6_greatestAnywhere_0 (τ : Nat) (σ : S2) (x1 : Int32) (hI : IvC 0 τ σ) (p9000 : 0 ≤ x1.toInt) (p9001 : x1.toInt ≤ 39)  : Ok (fun z => 0 ≤ z.toInt) (fX6_greatestAnywhere_0 τ σ x1) := by
  have hFU : ((FU : Nat) : Int) = 100000 := rfl
  unfold fX6_greatestAnywhere_0
  have : (0 : Int32).toInt = 0 := by decide
  exact sX6_greatestAnywhere_4 τ FU σ x1 0 0 hI (by omega) (by omega) (by omega) (by omega) (by omega) (by omega)

theorem sX6_greatestAnywhere (τ : Nat) (σ : S2) (a1 : Int32) (hI : IvC 0 τ σ) (p9000 : 0 ≤ a1.toInt) (p9001 : a1.toInt ≤ 39)  : Ok (fun z => 0 ≤ z.toInt) (fX6_greatestAnywhere τ σ a1) := by
  unfold fX6_greatestAnywhere
  exact sX6_greatestAnywhere_0 τ σ a1 hI (by assumption) (by assumption)

theorem sX6_mendAll_110 (τ : Nat) (b1 : Nat) (k4 : S2 → Int32 → Int32 → Option (Int32 × S2)) (σ : S2) (x2 : Int32) (x3 : Int32) (hI : IvC 0 τ σ) (p9000 : 0 ≤ x3.toInt) (p9001 : x3.toInt ≤ 39) (hk4 : ∀ (y0 : S2) (y1 : Int32) (y2 : Int32), IvC 0 τ y0 → 0 ≤ y2.toInt → y2.toInt ≤ 40 → x3.toInt + 1 ≤ y2.toInt → Ok (fun z => IvC 0 τ z.2) (k4 y0 y1 y2)) : Ok (fun z => IvC 0 τ z.2) (fX6_mendAll_110 τ b1 k4 σ x2 x3) := by
  have hFU : ((FU : Nat) : Int) = 100000 := rfl
  unfold fX6_mendAll_110
  have : (1 : Int32).toInt = 1 := by decide
  have : ((x3 + 1) : Int32).toInt = (x3 : Int32).toInt + (1 : Int32).toInt := i32_add (by omega) (by omega)
  refine ok_nmI (fun v1 hv1 he1 => ?_)
  have := i32_rng x2
  exact hk4 σ x2 v1 hI (by omega) (by omega) (by omega)

theorem sX6_mendAll_104 (τ : Nat) (b1 : Nat) (k53 : S2 → Int32 → Int32 → Int32 → Int32 → Option (Int32 × S2)) (σ : S2) (x2 : Int32) (x3 : Int32) (x4 : Int32) (x5 : Int32) (hI : IvC 0 τ σ) (p9000 : 0 ≤ x3.toInt) (p9001 : x3.toInt ≤ 39) (p9002 : 1 ≤ x4.toInt) (p9003 : 0 ≤ x5.toInt) (p9004 : x5.toInt ≤ 3) (hk53 : ∀ (y0 : S2) (y1 : Int32) (y2 : Int32) (y3 : Int32) (y4 : Int32), IvC 0 τ y0 → 0 ≤ y2.toInt → y2.toInt ≤ 39 → 1 ≤ y3.toInt → 0 ≤ y4.toInt → y4.toInt ≤ 4 → x5.toInt + 1 ≤ y4.toInt → x3.toInt ≤ y2.toInt → Ok (fun z => IvC 0 τ z.2) (k53 y0 y1 y2 y3 y4)) : Ok (fun z => IvC 0 τ z.2) (fX6_mendAll_104 τ b1 k53 σ x2 x3 x4 x5) := by
  have hFU : ((FU : Nat) : Int) = 100000 := rfl
  unfold fX6_mendAll_104
  have : (1 : Int32).toInt = 1 := by decide
  have : ((x5 + 1) : Int32).toInt = (x5 : Int32).toInt + (1 : Int32).toInt := i32_add (by omega) (by omega)
  refine ok_nmI (fun v2 hv2 he1 => ?_)
  have := i32_rng x2
  have := i32_rng x4
  exact hk53 σ x2 x3 x4 v2 hI (by omega) (by omega) (by omega) (by omega) (by omega) (by omega) (by omega)

theorem sX6_mendAll_53 (τ : Nat) (b1 : Nat) (k4 : S2 → Int32 → Int32 → Option (Int32 × S2)) : ∀ (n : Nat) (σ : S2) (x2 : Int32) (x3 : Int32) (x4 : Int32) (x5 : Int32), IvC 0 τ σ → 0 ≤ x3.toInt → x3.toInt ≤ 39 → 1 ≤ x4.toInt → 0 ≤ x5.toInt → x5.toInt ≤ 4 → 4 - x5.toInt < (n : Int) → (∀ (y0 : S2) (y1 : Int32) (y2 : Int32), IvC 0 τ y0 → 0 ≤ y2.toInt → y2.toInt ≤ 40 → x3.toInt + 1 ≤ y2.toInt → Ok (fun z => IvC 0 τ z.2) (k4 y0 y1 y2)) → Ok (fun z => IvC 0 τ z.2) (fX6_mendAll_53 τ b1 k4 n σ x2 x3 x4 x5) := by
  have hFU : ((FU : Nat) : Int) = 100000 := rfl
  intro n
  induction n with
  | zero => intro σ x2 x3 x4 x5 hI p9000 p9001 p9002 p9003 p9004 hm hk4; exfalso; omega
  | succ n ih =>
    intro σ x2 x3 x4 x5 hI p9000 p9001 p9002 p9003 p9004 hm hk4
    unfold fX6_mendAll_53
    have : 0 ≤ (σ.1 14 3).toInt ∧ (σ.1 14 3).toInt ≤ 4 := hI.1 14 3
    refine ok_le (fun h1 => ?_) (fun h1 => ?_)
    · have := i32_rng x2
      exact sX6_mendAll_110 τ b1 k4 σ x2 x3 hI (by omega) (by omega) (fun y0 y1 y2 q0 q1 q2 q3 => hk4 y0 y1 y2 q0 q1 q2 (by omega))
    · refine ok_ck (by omega) (by omega) ?_
      have : 0 ≤ (σ.1 16 (Int32.toNatClampNeg x5)).toInt ∧ (σ.1 16 (Int32.toNatClampNeg x5)).toInt ≤ 11 := hI.1 16 (Int32.toNatClampNeg x5)
      refine ok_nmI (fun v3 hv3 he2 => ?_)
      refine ok_bi (sX2_isUp τ σ v3 hI (by omega) (by omega)) (fun r4 hr3 => ?_)
      obtain ⟨p4, p5⟩ := hr3
      have p4 : 0 ≤ r4.toInt := p4
      have p5 : r4.toInt ≤ 1 := p5
      have : (0 : Int32).toInt = 0 := by decide
      refine ok_eq (fun h6 => ?_) (fun h6 => ?_)
      · have := i32_rng x2
        have := i32_rng x4
        exact sX6_mendAll_104 τ b1 (fX6_mendAll_53 τ b1 k4 n) σ x2 x3 x4 x5 hI (by omega) (by omega) (by omega) (by omega) (by omega) (fun y0 y1 y2 y3 y4 q0 q1 q2 q3 q4 q5 q6 q7 => ih y0 y1 y2 y3 y4 q0 q1 q2 q3 q4 q5 (by omega) (fun z0 z1 z2 w0 w1 w2 w3 => hk4 z0 z1 z2 w0 w1 w2 (by omega)))
      · have := i32_rng x4
        refine ok_bs (sX6_receives τ σ v3 x3 x4 hI (by omega) (by omega) (by omega) (by omega)) (fun r6 σ7 hr7 => ?_)
        obtain ⟨p8, p9, p10⟩ := hr7
        have p8 : IvC 0 τ σ7 := p8
        have p9 : 0 ≤ r6.toInt := p9
        have p10 : r6.toInt ≤ 1 := p10
        refine ok_eq (fun h11 => ?_) (fun h11 => ?_)
        · have := i32_rng x2
          exact sX6_mendAll_104 τ b1 (fX6_mendAll_53 τ b1 k4 n) σ7 x2 x3 x4 x5 p8 (by omega) (by omega) (by omega) (by omega) (by omega) (fun y0 y1 y2 y3 y4 q0 q1 q2 q3 q4 q5 q6 q7 => ih y0 y1 y2 y3 y4 q0 q1 q2 q3 q4 q5 (by omega) (fun z0 z1 z2 w0 w1 w2 w3 => hk4 z0 z1 z2 w0 w1 w2 (by omega)))
        · have := i32_rng x2
          have : (1 : Int32).toInt = 1 := by decide
          have := i32_rng (x2 + 1)
          refine ok_nmI (fun v9 hv9 he12 => ?_)
          have := i32_rng v9
          exact sX6_mendAll_104 τ b1 (fX6_mendAll_53 τ b1 k4 n) σ7 v9 x3 x4 x5 p8 (by omega) (by omega) (by omega) (by omega) (by omega) (fun y0 y1 y2 y3 y4 q0 q1 q2 q3 q4 q5 q6 q7 => ih y0 y1 y2 y3 y4 q0 q1 q2 q3 q4 q5 (by omega) (fun z0 z1 z2 w0 w1 w2 w3 => hk4 z0 z1 z2 w0 w1 w2 (by omega)))

theorem sX6_mendAll_4 (τ : Nat) (b1 : Nat) : ∀ (n : Nat) (σ : S2) (x2 : Int32) (x3 : Int32), IvC 0 τ σ → 0 ≤ x3.toInt → x3.toInt ≤ 40 → 40 - x3.toInt < (n : Int) → Ok (fun z => IvC 0 τ z.2) (fX6_mendAll_4 τ b1 n σ x2 x3) := by
  have hFU : ((FU : Nat) : Int) = 100000 := rfl
  intro n
  induction n with
  | zero => intro σ x2 x3 hI p9000 p9001 hm; exfalso; omega
  | succ n ih =>
    intro σ x2 x3 hI p9000 p9001 hm
    unfold fX6_mendAll_4
    have : 0 ≤ (σ.1 3 3).toInt ∧ (σ.1 3 3).toInt ≤ 40 := hI.1 3 3
    refine ok_le (fun h1 => ?_) (fun h1 => ?_)
    · have := i32_rng x2
      exact ok_some hI
    · refine ok_bi (sX6_greatestAnywhere τ σ x3 hI (by omega) (by omega)) (fun r10 hr2 => ?_)
      have hr2 : 0 ≤ r10.toInt := hr2
      have := i32_rng r10
      have : (0 : Int32).toInt = 0 := by decide
      refine ok_eq (fun h4 => ?_) (fun h4 => ?_)
      · have := i32_rng x2
        exact sX6_mendAll_110 τ b1 (fX6_mendAll_4 τ b1 n) σ x2 x3 hI (by omega) (by omega) (fun y0 y1 y2 q0 q1 q2 q3 => ih y0 y1 y2 q0 q1 q2 (by omega))
      · have := i32_rng (σ.1 (182 + (6 * b1)) 1)
        refine ok_bi (sX4_placeOf τ σ x3 (σ.1 (182 + (6 * b1)) 1) hI (by omega) (by omega)) (fun r12 hr5 => ?_)
        obtain ⟨p6, p7⟩ := hr5
        have p6 : 0 ≤ r12.toInt := p6
        have p7 : r12.toInt ≤ 999 := p7
        refine ok_bs (sX1_choose τ b1 σ r12 hI (by omega) (by omega)) (fun r14 σ15 hr8 => ?_)
        have hr8 : IvC 0 τ σ15 := hr8
        have := i32_rng x2
        exact sX6_mendAll_53 τ b1 (fX6_mendAll_4 τ b1 n) FU σ15 x2 x3 r10 0 hr8 (by omega) (by omega) (by omega) (by omega) (by omega) (by omega) (fun y0 y1 y2 q0 q1 q2 q3 => ih y0 y1 y2 q0 q1 q2 (by omega))

