theorem sX6_spread_45 (τ : Nat) (b1 : Nat) : ∀ (n : Nat) (σ : S2) (x2 : Int32) (x3 : Int32) (x4 : Int32), IvC 0 τ σ → 0 ≤ x2.toInt → x2.toInt ≤ 39 → 0 ≤ x4.toInt → x4.toInt ≤ 4 → 4 - x4.toInt < (n : Int) → Ok (fun z => IvC 0 τ z.2) (fX6_spread_45 τ b1 n σ x2 x3 x4) := by
  have hFU : ((FU : Nat) : Int) = 100000 := rfl
  intro n
  induction n with
  | zero => intro σ x2 x3 x4 hI p9000 p9001 p9002 p9003 hm; exfalso; omega
  | succ n ih =>
    intro σ x2 x3 x4 hI p9000 p9001 p9002 p9003 hm
    unfold fX6_spread_45
    have : 0 ≤ (σ.1 14 3).toInt ∧ (σ.1 14 3).toInt ≤ 4 := hI.1 14 3
    refine ok_le (fun h1 => ?_) (fun h1 => ?_)
    · have := i32_rng x3
      exact ok_some hI
    · refine ok_ck (by omega) (by omega) ?_
      have : 0 ≤ (σ.1 16 (Int32.toNatClampNeg x4)).toInt ∧ (σ.1 16 (Int32.toNatClampNeg x4)).toInt ≤ 11 := hI.1 16 (Int32.toNatClampNeg x4)
      refine ok_nmI (fun v2 hv2 he2 => ?_)
      refine ok_bs (sX6_reaches τ σ v2 x2 hI (by omega) (by omega) (by omega) (by omega)) (fun r3 σ4 hr3 => ?_)
      obtain ⟨p4, p5, p6⟩ := hr3
      have p4 : IvC 0 τ σ4 := p4
      have p5 : 0 ≤ r3.toInt := p5
      have p6 : r3.toInt ≤ 1 := p6
      have : (0 : Int32).toInt = 0 := by decide
      refine ok_eq (fun h7 => ?_) (fun h7 => ?_)
      · have := i32_rng x3
        exact sX6_spread_78 τ b1 (fX6_spread_45 τ b1 n) σ4 x2 x3 x4 p4 (by omega) (by omega) (by omega) (by omega) (fun y0 y1 y2 y3 q0 q1 q2 q3 q4 q5 => ih y0 y1 y2 y3 q0 q1 q2 q3 q4 (by omega))
      · have := i32_rng x3
        have : (1 : Int32).toInt = 1 := by decide
        have := i32_rng (x3 + 1)
        refine ok_nmI (fun v6 hv6 he8 => ?_)
        have := i32_rng v6
        exact sX6_spread_78 τ b1 (fX6_spread_45 τ b1 n) σ4 x2 v6 x4 p4 (by omega) (by omega) (by omega) (by omega) (fun y0 y1 y2 y3 q0 q1 q2 q3 q4 q5 => ih y0 y1 y2 y3 q0 q1 q2 q3 q4 (by omega))

theorem sX6_spread_0 (τ : Nat) (b1 : Nat) (σ : S2) (x2 : Int32) (hI : IvC 0 τ σ) (p9000 : 0 ≤ x2.toInt) (p9001 : x2.toInt ≤ 39)  : Ok (fun z => IvC 0 τ z.2) (fX6_spread_0 τ b1 σ x2) := by
  have hFU : ((FU : Nat) : Int) = 100000 := rfl
  unfold fX6_spread_0
  have := i32_rng (σ.1 18 8)
  have : (1 : Int32).toInt = 1 := by decide
  have := i32_rng ((σ.1 18 8) + 1)
  refine ok_nm (fun σ7 hs1 => ?_)
  have hI2 : IvC 0 τ σ7 := by rw [hs1]; exact IvC.wF hI (by decide) (by omega) (i32_rng _).1 (i32_rng _).2
  refine ok_ck (by omega) (by omega) ?_
  have := i32_rng (σ7.1 24 (Int32.toNatClampNeg x2))
  refine ok_nmI (fun v8 hv8 he3 => ?_)
  refine ok_ck (by omega) (by omega) ?_
  have := i32_rng v8
  have := i32_rng (v8 + 1)
  refine ok_nm (fun σ9 hs4 => ?_)
  have hI5 : IvC 0 τ σ9 := by rw [hs4]; exact IvC.wF hI2 (by decide) (by omega) (i32_rng _).1 (i32_rng _).2
  have : (σ9.1 18 8).toInt = (σ7.1 18 8).toInt := by rw [hs4]; rfl
  have := i32_rng (σ9.1 (182 + (6 * b1)) 1)
  refine ok_bi (sX4_placeOf τ σ9 x2 (σ9.1 (182 + (6 * b1)) 1) hI5 (by omega) (by omega)) (fun r10 hr6 => ?_)
  obtain ⟨p7, p8⟩ := hr6
  have p7 : 0 ≤ r10.toInt := p7
  have p8 : r10.toInt ≤ 999 := p8
  refine ok_bs (sX1_choose τ b1 σ9 r10 hI5 (by omega) (by omega)) (fun r12 σ13 hr9 => ?_)
  have hr9 : IvC 0 τ σ13 := hr9
  have : (0 : Int32).toInt = 0 := by decide
  exact sX6_spread_45 τ b1 FU σ13 x2 0 0 hr9 (by omega) (by omega) (by omega) (by omega) (by omega)

theorem sX6_spread (τ : Nat) (b1 : Nat) (σ : S2) (a2 : Int32) (hI : IvC 0 τ σ) (p9000 : 0 ≤ a2.toInt) (p9001 : a2.toInt ≤ 39)  : Ok (fun z => IvC 0 τ z.2) (fX6_spread τ b1 σ a2) := by
  unfold fX6_spread
  exact sX6_spread_0 τ b1 σ a2 hI (by assumption) (by assumption)

theorem sX6_handBack_76 (τ : Nat) (k15 : S2 → Int32 → Int32 → Int32 → Option (Unit × S2)) (σ : S2) (x1 : Int32) (x2 : Int32) (x3 : Int32) (hI : IvC 0 τ σ) (p9000 : 0 ≤ x1.toInt) (p9001 : x1.toInt ≤ 11) (p9002 : 0 ≤ x2.toInt) (p9003 : x2.toInt ≤ 11) (p9004 : 0 ≤ x3.toInt) (p9005 : x3.toInt ≤ 39) (hk15 : ∀ (y0 : S2) (y1 : Int32) (y2 : Int32) (y3 : Int32), IvC 0 τ y0 → 0 ≤ y1.toInt → y1.toInt ≤ 11 → 0 ≤ y2.toInt → y2.toInt ≤ 11 → 0 ≤ y3.toInt → y3.toInt ≤ 40 → x3.toInt + 1 ≤ y3.toInt → x2.toInt ≤ y2.toInt → Ok (fun z => IvC 0 τ z.2) (k15 y0 y1 y2 y3)) : Ok (fun z => IvC 0 τ z.2) (fX6_handBack_76 τ k15 σ x1 x2 x3) := by
  have hFU : ((FU : Nat) : Int) = 100000 := rfl
  unfold fX6_handBack_76
  have : (1 : Int32).toInt = 1 := by decide
  have : ((x3 + 1) : Int32).toInt = (x3 : Int32).toInt + (1 : Int32).toInt := i32_add (by omega) (by omega)
  refine ok_nmI (fun v1 hv1 he1 => ?_)
  exact hk15 σ x1 x2 v1 hI (by omega) (by omega) (by omega) (by omega) (by omega) (by omega) (by omega) (by omega)

theorem sX6_handBack_15 (τ : Nat) (k2 : S2 → Int32 → Int32 → Option (Unit × S2)) : ∀ (n : Nat) (σ : S2) (x1 : Int32) (x2 : Int32) (x3 : Int32), IvC 0 τ σ → 0 ≤ x1.toInt → x1.toInt ≤ 11 → 0 ≤ x2.toInt → x2.toInt ≤ 11 → 0 ≤ x3.toInt → x3.toInt ≤ 40 → 40 - x3.toInt < (n : Int) → (∀ (y0 : S2) (y1 : Int32) (y2 : Int32), IvC 0 τ y0 → 0 ≤ y1.toInt → y1.toInt ≤ 11 → 0 ≤ y2.toInt → y2.toInt ≤ 12 → x2.toInt + 1 ≤ y2.toInt → Ok (fun z => IvC 0 τ z.2) (k2 y0 y1 y2)) → Ok (fun z => IvC 0 τ z.2) (fX6_handBack_15 τ k2 n σ x1 x2 x3) := by
  have hFU : ((FU : Nat) : Int) = 100000 := rfl
  intro n
  induction n with
  | zero => intro σ x1 x2 x3 hI p9000 p9001 p9002 p9003 p9004 p9005 hm hk2; exfalso; omega
  | succ n ih =>
    intro σ x1 x2 x3 hI p9000 p9001 p9002 p9003 p9004 p9005 hm hk2
    unfold fX6_handBack_15
    have : 0 ≤ (σ.1 3 3).toInt ∧ (σ.1 3 3).toInt ≤ 40 := hI.1 3 3
    refine ok_le (fun h1 => ?_) (fun h1 => ?_)
    · have : (1 : Int32).toInt = 1 := by decide
      have : ((x2 + 1) : Int32).toInt = (x2 : Int32).toInt + (1 : Int32).toInt := i32_add (by omega) (by omega)
      refine ok_nmI (fun v2 hv2 he2 => ?_)
      exact hk2 σ x1 v2 hI (by omega) (by omega) (by omega) (by omega) (by omega)
    · refine ok_ck (by omega) (by omega) ?_
      refine ok_ck (by omega) (by omega) ?_
      have := i32_rng (σ.1 (96 + (Int32.toNatClampNeg x2)) (Int32.toNatClampNeg x3))
      refine ok_nmI (fun v4 hv4 he3 => ?_)
      have := i32_rng v4
      have : (0 : Int32).toInt = 0 := by decide
      refine ok_eq (fun h4 => ?_) (fun h4 => ?_)
      · exact sX6_handBack_76 τ (fX6_handBack_15 τ k2 n) σ x1 x2 x3 hI (by omega) (by omega) (by omega) (by omega) (by omega) (by omega) (fun y0 y1 y2 y3 q0 q1 q2 q3 q4 q5 q6 q7 q8 => ih y0 y1 y2 y3 q0 q1 q2 q3 q4 q5 q6 (by omega) (fun z0 z1 z2 w0 w1 w2 w3 w4 w5 => hk2 z0 z1 z2 w0 w1 w2 w3 w4 (by omega)))
      · refine ok_ck (by omega) (by omega) ?_
        refine ok_ck (by omega) (by omega) ?_
        have : 0 ≤ (σ.1 (108 + (Int32.toNatClampNeg x2)) (Int32.toNatClampNeg x3)).toInt ∧ (σ.1 (108 + (Int32.toNatClampNeg x2)) (Int32.toNatClampNeg x3)).toInt ≤ 11 := hI.1.r3 _ _ (by have := i32_nat (i := x2) (by omega); omega)
        refine ok_nmI (fun v6 hv6 he5 => ?_)
        refine ok_eq (fun h6 => ?_) (fun h6 => ?_)
        · refine ok_ck (by omega) (by omega) ?_
          refine ok_ck (by omega) (by omega) ?_
          refine ok_nmI (fun v8 hv8 he7 => ?_)
          have := i32_rng v8
          refine ok_bs (sX6_takesGreater τ σ x1 x3 v8 hI (by omega) (by omega) (by omega) (by omega)) (fun r9 σ10 hr8 => ?_)
          obtain ⟨p9, p10, p11⟩ := hr8
          have p9 : IvC 0 τ σ10 := p9
          have p10 : 0 ≤ r9.toInt := p10
          have p11 : r9.toInt ≤ 1 := p11
          refine ok_ck (by omega) (by omega) ?_
          refine ok_ck (by omega) (by omega) ?_
          refine ok_nm (fun σ13 hs12 => ?_)
          have hI13 : IvC 0 τ σ13 := by rw [hs12]; exact IvC.wR2 p9 (by have := i32_nat (i := x2) (by omega); omega) (i32_rng _).1 (i32_rng _).2
          exact sX6_handBack_76 τ (fX6_handBack_15 τ k2 n) σ13 x1 x2 x3 hI13 (by omega) (by omega) (by omega) (by omega) (by omega) (by omega) (fun y0 y1 y2 y3 q0 q1 q2 q3 q4 q5 q6 q7 q8 => ih y0 y1 y2 y3 q0 q1 q2 q3 q4 q5 q6 (by omega) (fun z0 z1 z2 w0 w1 w2 w3 w4 w5 => hk2 z0 z1 z2 w0 w1 w2 w3 w4 (by omega)))
        · exact sX6_handBack_76 τ (fX6_handBack_15 τ k2 n) σ x1 x2 x3 hI (by omega) (by omega) (by omega) (by omega) (by omega) (by omega) (fun y0 y1 y2 y3 q0 q1 q2 q3 q4 q5 q6 q7 q8 => ih y0 y1 y2 y3 q0 q1 q2 q3 q4 q5 q6 (by omega) (fun z0 z1 z2 w0 w1 w2 w3 w4 w5 => hk2 z0 z1 z2 w0 w1 w2 w3 w4 (by omega)))

theorem sX6_handBack_2 (τ : Nat) : ∀ (n : Nat) (σ : S2) (x1 : Int32) (x2 : Int32), IvC 0 τ σ → 0 ≤ x1.toInt → x1.toInt ≤ 11 → 0 ≤ x2.toInt → x2.toInt ≤ 12 → 12 - x2.toInt < (n : Int) → Ok (fun z => IvC 0 τ z.2) (fX6_handBack_2 τ n σ x1 x2) := by
  have hFU : ((FU : Nat) : Int) = 100000 := rfl
  intro n
  induction n with
  | zero => intro σ x1 x2 hI p9000 p9001 p9002 p9003 hm; exfalso; omega
  | succ n ih =>
    intro σ x1 x2 hI p9000 p9001 p9002 p9003 hm
    unfold fX6_handBack_2
    have : 0 ≤ (σ.1 7 5).toInt ∧ (σ.1 7 5).toInt ≤ 12 := hI.1 7 5
    refine ok_le (fun h1 => ?_) (fun h1 => ?_)
    · exact ok_some hI
    · have : (0 : Int32).toInt = 0 := by decide
      exact sX6_handBack_15 τ (fX6_handBack_2 τ n) FU σ x1 x2 0 hI (by omega) (by omega) (by omega) (by omega) (by omega) (by omega) (by omega) (fun y0 y1 y2 q0 q1 q2 q3 q4 q5 => ih y0 y1 y2 q0 q1 q2 q3 q4 (by omega))

theorem sX6_handBack_0 (τ : Nat) (σ : S2) (x1 : Int32) (hI : IvC 0 τ σ) (p9000 : 0 ≤ x1.toInt) (p9001 : x1.toInt ≤ 11)  : Ok (fun z => IvC 0 τ z.2) (fX6_handBack_0 τ σ x1) := by
  have hFU : ((FU : Nat) : Int) = 100000 := rfl
  unfold fX6_handBack_0
  have : (0 : Int32).toInt = 0 := by decide
  exact sX6_handBack_2 τ FU σ x1 0 hI (by omega) (by omega) (by omega) (by omega) (by omega)

theorem sX6_handBack (τ : Nat) (σ : S2) (a1 : Int32) (hI : IvC 0 τ σ) (p9000 : 0 ≤ a1.toInt) (p9001 : a1.toInt ≤ 11)  : Ok (fun z => IvC 0 τ z.2) (fX6_handBack τ σ a1) := by
  unfold fX6_handBack
  exact sX6_handBack_0 τ σ a1 hI (by assumption) (by assumption)

theorem sJ7_fill_53178_5 (τ : Nat) (c0 : Nat) (n0 : Nat) : ∀ (n : Nat) (σ : S2) (x1 : Int32) (x2 : Int32) (x3 : Int32), IvC 0 τ σ → 0 ≤ x1.toInt → x1.toInt ≤ 0 → 0 ≤ x2.toInt → x2.toInt ≤ 1000 → 0 ≤ x3.toInt → x3.toInt ≤ 1000 → FlC 0 τ c0 x1 → (n0 : Int) ≤ 1000 → x3.toInt ≤ (n0 : Int) → 1000 - x2.toInt < (n : Int) → Ok (fun z => IvC 0 τ z.2) (fJ7_fill_53178_5 τ c0 n0 n σ x1 x2 x3) := by
  have hFU : ((FU : Nat) : Int) = 100000 := rfl
  intro n
  induction n with
  | zero => intro σ x1 x2 x3 hI p9000 p9001 p9002 p9003 p9004 p9005 p9006 p9007 p9008 hm; exfalso; omega
  | succ n ih =>
    intro σ x1 x2 x3 hI p9000 p9001 p9002 p9003 p9004 p9005 p9006 p9007 p9008 hm
    unfold fJ7_fill_53178_5
    refine ok_le (fun h1 => ?_) (fun h1 => ?_)
    · exact ok_some hI
    · refine ok_ck (by omega) (by omega) ?_
      refine ok_nm (fun σ1 hs2 => ?_)
      have hI3 : IvC 0 τ σ1 := by rw [hs2]; first | exact (show FlC 0 τ c0 x1 by assumption) _ _ hI | exact (show FaC 0 τ c0 by assumption) _ _ _ hI
      have : (1 : Int32).toInt = 1 := by decide
      have : ((x2 + 1) : Int32).toInt = (x2 : Int32).toInt + (1 : Int32).toInt := i32_add (by omega) (by omega)
      refine ok_nmI (fun v2 hv2 he4 => ?_)
      exact ih σ1 x1 v2 x3 hI3 (by omega) (by omega) (by omega) (by omega) (by omega) (by omega) (by first | assumption | exact KeM.rf _) (by omega) (by omega) (by omega)

theorem sJ7_fill_53178_0 (τ : Nat) (c0 : Nat) (n0 : Nat) (σ : S2) (x1 : Int32) (hI : IvC 0 τ σ) (p9000 : 0 ≤ x1.toInt) (p9001 : x1.toInt ≤ 0) (p9002 : FlC 0 τ c0 x1) (p9003 : (n0 : Int) ≤ 1000)  : Ok (fun z => IvC 0 τ z.2) (fJ7_fill_53178_0 τ c0 n0 σ x1) := by
  have hFU : ((FU : Nat) : Int) = 100000 := rfl
  unfold fJ7_fill_53178_0
  have : ((Int32.ofNat n0) : Int32).toInt = (n0 : Int) := i32_ofNat (by omega)
  refine ok_nmI (fun v3 hv3 he1 => ?_)
  have : (0 : Int32).toInt = 0 := by decide
  exact sJ7_fill_53178_5 τ c0 n0 FU σ x1 0 v3 hI (by omega) (by omega) (by omega) (by omega) (by omega) (by omega) (by first | assumption | exact KeM.rf _) (by omega) (by omega) (by omega)

theorem sJ7_fill_53178 (τ : Nat) (c0 : Nat) (n0 : Nat) (σ : S2) (a1 : Int32) (hI : IvC 0 τ σ) (p9000 : 0 ≤ a1.toInt) (p9001 : a1.toInt ≤ 0) (p9002 : FlC 0 τ c0 a1) (p9003 : (n0 : Int) ≤ 1000)  : Ok (fun z => IvC 0 τ z.2) (fJ7_fill_53178 τ c0 n0 σ a1) := by
  unfold fJ7_fill_53178
  exact sJ7_fill_53178_0 τ c0 n0 σ a1 hI (by assumption) (by assumption) (by assumption) (by assumption)

theorem sX6_empty_0 (τ : Nat) (σ : S2) (x1 : Int32) (hI : IvC 0 τ σ) (p9000 : 0 ≤ x1.toInt) (p9001 : x1.toInt ≤ 11)  : Ok (fun z => IvC 0 τ z.2) (fX6_empty_0 τ σ x1) := by
  have hFU : ((FU : Nat) : Int) = 100000 := rfl
  unfold fX6_empty_0
  refine ok_ck (by omega) (by omega) ?_
  have : (0 : Int32).toInt = 0 := by decide
  refine ok_bs (sJ7_fill_53178 τ (84 + (Int32.toNatClampNeg x1)) 40 σ 0 hI (by omega) (by omega) (by first | assumption | exact KeM.rf _ | exact FlC.r1 (by have := i32_nat (i := x1) (by omega); omega) | exact FlC.r2 (by have := i32_nat (i := x1) (by omega); omega)) (by omega)) (fun r2 σ3 hr1 => ?_)
  have hr1 : IvC 0 τ σ3 := hr1
  refine ok_ck (by omega) (by omega) ?_
  refine ok_bs (sJ7_fill_53178 τ (96 + (Int32.toNatClampNeg x1)) 40 σ3 0 hr1 (by omega) (by omega) (by first | assumption | exact KeM.rf _ | exact FlC.r1 (by have := i32_nat (i := x1) (by omega); omega) | exact FlC.r2 (by have := i32_nat (i := x1) (by omega); omega)) (by omega)) (fun r6 σ7 hr3 => ?_)
  have hr3 : IvC 0 τ σ7 := hr3
  exact ok_some hr3

theorem sX6_empty (τ : Nat) (σ : S2) (a1 : Int32) (hI : IvC 0 τ σ) (p9000 : 0 ≤ a1.toInt) (p9001 : a1.toInt ≤ 11)  : Ok (fun z => IvC 0 τ z.2) (fX6_empty τ σ a1) := by
  unfold fX6_empty
  exact sX6_empty_0 τ σ a1 hI (by assumption) (by assumption)

theorem sX6_greatestFor_75 (τ : Nat) (b1 : Nat) (k25 : S2 → Int32 → Int32 → Int32 → Option (Int32 × S2)) (σ : S2) (x2 : Int32) (x3 : Int32) (x4 : Int32) (hI : IvC 0 τ σ) (p9000 : 0 ≤ x2.toInt) (p9001 : x2.toInt ≤ 39) (p9002 : 0 ≤ x3.toInt) (p9003 : 0 ≤ x4.toInt) (p9004 : x4.toInt ≤ 3) (hk25 : ∀ (y0 : S2) (y1 : Int32) (y2 : Int32) (y3 : Int32), IvC 0 τ y0 → 0 ≤ y1.toInt → y1.toInt ≤ 39 → 0 ≤ y2.toInt → 0 ≤ y3.toInt → y3.toInt ≤ 4 → x4.toInt + 1 ≤ y3.toInt → Ok (fun z => IvC 0 τ z.2 ∧ 0 ≤ z.1.toInt) (k25 y0 y1 y2 y3)) : Ok (fun z => IvC 0 τ z.2 ∧ 0 ≤ z.1.toInt) (fX6_greatestFor_75 τ b1 k25 σ x2 x3 x4) := by
  have hFU : ((FU : Nat) : Int) = 100000 := rfl
  unfold fX6_greatestFor_75
  have : (1 : Int32).toInt = 1 := by decide
  have : ((x4 + 1) : Int32).toInt = (x4 : Int32).toInt + (1 : Int32).toInt := i32_add (by omega) (by omega)
  refine ok_nmI (fun v1 hv1 he1 => ?_)
  have := i32_rng x3
  exact hk25 σ x2 x3 v1 hI (by omega) (by omega) (by omega) (by omega) (by omega) (by omega)

theorem sX6_greatestFor_25 (τ : Nat) (b1 : Nat) : ∀ (n : Nat) (σ : S2) (x2 : Int32) (x3 : Int32) (x4 : Int32), IvC 0 τ σ → 0 ≤ x2.toInt → x2.toInt ≤ 39 → 0 ≤ x3.toInt → 0 ≤ x4.toInt → x4.toInt ≤ 4 → 4 - x4.toInt < (n : Int) → Ok (fun z => IvC 0 τ z.2 ∧ 0 ≤ z.1.toInt) (fX6_greatestFor_25 τ b1 n σ x2 x3 x4) := by
  have hFU : ((FU : Nat) : Int) = 100000 := rfl
  intro n
  induction n with
  | zero => intro σ x2 x3 x4 hI p9000 p9001 p9002 p9003 p9004 hm; exfalso; omega
  | succ n ih =>
    intro σ x2 x3 x4 hI p9000 p9001 p9002 p9003 p9004 hm
    unfold fX6_greatestFor_25
    have : 0 ≤ (σ.1 14 3).toInt ∧ (σ.1 14 3).toInt ≤ 4 := hI.1 14 3
    refine ok_le (fun h1 => ?_) (fun h1 => ?_)
    · have := i32_rng x3
      exact ok_some ⟨hI, by show 0 ≤ x3.toInt; omega⟩
    · refine ok_ck (by omega) (by omega) ?_
      have : 0 ≤ (σ.1 16 (Int32.toNatClampNeg x4)).toInt ∧ (σ.1 16 (Int32.toNatClampNeg x4)).toInt ≤ 11 := hI.1 16 (Int32.toNatClampNeg x4)
      refine ok_nmI (fun v2 hv2 he2 => ?_)
      refine ok_bi (sX2_isUp τ σ v2 hI (by omega) (by omega)) (fun r3 hr3 => ?_)
      obtain ⟨p4, p5⟩ := hr3
      have p4 : 0 ≤ r3.toInt := p4
      have p5 : r3.toInt ≤ 1 := p5
      have : (0 : Int32).toInt = 0 := by decide
      refine ok_eq (fun h6 => ?_) (fun h6 => ?_)
      · have := i32_rng x3
        exact sX6_greatestFor_75 τ b1 (fX6_greatestFor_25 τ b1 n) σ x2 x3 x4 hI (by omega) (by omega) (by omega) (by omega) (by omega) (fun y0 y1 y2 y3 q0 q1 q2 q3 q4 q5 q6 => ih y0 y1 y2 y3 q0 q1 q2 q3 q4 q5 (by omega))
      · refine ok_ck (by omega) (by omega) ?_
        refine ok_ck (by omega) (by omega) ?_
        have := i32_rng (σ.1 (84 + (Int32.toNatClampNeg v2)) (Int32.toNatClampNeg x2))
        refine ok_nmI (fun v6 hv6 he7 => ?_)
        have := i32_rng x3
        have := i32_rng v6
        have := i32_iflt x3 v6 v6 x3
        refine ok_nmI (fun v7 hv7 he8 => ?_)
        have := i32_rng v7
        exact sX6_greatestFor_75 τ b1 (fX6_greatestFor_25 τ b1 n) σ x2 v7 x4 hI (by omega) (by omega) (by omega) (by omega) (by omega) (fun y0 y1 y2 y3 q0 q1 q2 q3 q4 q5 q6 => ih y0 y1 y2 y3 q0 q1 q2 q3 q4 q5 (by omega))

