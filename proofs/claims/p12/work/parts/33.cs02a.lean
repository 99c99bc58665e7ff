theorem sX5_walk_0 (τ : Nat) (σ : S2) (x1 : Int32) (hI : IvC 0 τ σ) (p9000 : 0 ≤ x1.toInt) (p9001 : x1.toInt ≤ 31)  : Ok (fun z => IvC 0 τ z.2) (fX5_walk_0 τ σ x1) := by
  have hFU : ((FU : Nat) : Int) = 100000 := rfl
  unfold fX5_walk_0
  have : (0 : Int32).toInt = 0 := by decide
  refine ok_nm (fun σ7 hs1 => ?_)
  have hI2 : IvC 0 τ σ7 := by rw [hs1]; exact IvC.wF hI (by decide) (by omega) (show 0 ≤ (0 : Int32).toInt by omega) (show (0 : Int32).toInt ≤ 5 by omega)
  have : (σ7.1 27 3).toInt = (0 : Int32).toInt := by rw [hs1]; rfl
  have : (σ7.1 27 1).toInt = (σ.1 27 1).toInt := by rw [hs1]; rfl
  exact sX5_walk_9 τ FU σ7 x1 0 0 hI2 (by omega) (by omega) (by omega) (by omega) (by omega) (by omega) (by omega) (by omega)

theorem sX5_walk (τ : Nat) (σ : S2) (a1 : Int32) (hI : IvC 0 τ σ) (p9000 : 0 ≤ a1.toInt) (p9001 : a1.toInt ≤ 31)  : Ok (fun z => IvC 0 τ z.2) (fX5_walk τ σ a1) := by
  unfold fX5_walk
  exact sX5_walk_0 τ σ a1 hI (by assumption) (by assumption)

theorem sX5_leastFrom_62 (τ : Nat) (b1 : Nat) (k12 : S2 → Int32 → Int32 → Option (Int32 × S2)) (σ : S2) (x3 : Int32) (x4 : Int32) (hI : IvC 0 τ σ) (p9000 : 0 ≤ x3.toInt) (p9001 : x3.toInt ≤ 31) (p9002 : 0 ≤ x4.toInt) (p9003 : x4.toInt ≤ 31) (hk12 : ∀ (y0 : S2) (y1 : Int32) (y2 : Int32), IvC 0 τ y0 → 0 ≤ y1.toInt → y1.toInt ≤ 31 → (-1) ≤ y2.toInt → y2.toInt ≤ 31 → y2.toInt ≤ x4.toInt - 1 → Ok (fun z => IvC 0 τ z.2) (k12 y0 y1 y2)) : Ok (fun z => IvC 0 τ z.2) (fX5_leastFrom_62 τ b1 k12 σ x3 x4) := by
  have hFU : ((FU : Nat) : Int) = 100000 := rfl
  unfold fX5_leastFrom_62
  refine ok_nmI (fun v1 hv1 he1 => ?_)
  have : v1.toInt = x4.toInt - 1 := by rw [he1]; exact i32_addm1 (by omega)
  clear hv1 he1
  exact hk12 σ x3 v1 hI (by omega) (by omega) (by omega) (by omega) (by omega)

theorem sX5_leastFrom_50 (τ : Nat) (b1 : Nat) (k12 : S2 → Int32 → Int32 → Option (Int32 × S2)) (σ : S2) (x3 : Int32) (x4 : Int32) (s0 : Int32) (s1 : Int32) (hI : IvC 0 τ σ) (p9000 : 0 ≤ x3.toInt) (p9001 : x3.toInt ≤ 31) (p9002 : 0 ≤ x4.toInt) (p9003 : x4.toInt ≤ 31) (p9004 : 0 ≤ s1.toInt) (p9005 : s1.toInt ≤ 31) (hk12 : ∀ (y0 : S2) (y1 : Int32) (y2 : Int32), IvC 0 τ y0 → 0 ≤ y1.toInt → y1.toInt ≤ 31 → (-1) ≤ y2.toInt → y2.toInt ≤ 31 → y2.toInt ≤ x4.toInt - 1 → Ok (fun z => IvC 0 τ z.2) (k12 y0 y1 y2)) : Ok (fun z => IvC 0 τ z.2) (fX5_leastFrom_50 τ b1 k12 σ x3 x4 s0 s1) := by
  have hFU : ((FU : Nat) : Int) = 100000 := rfl
  unfold fX5_leastFrom_50
  refine ok_ck (by omega) (by omega) ?_
  have := i32_rng s0
  refine ok_nm (fun σ2 hs1 => ?_)
  have hI2 : IvC 0 τ σ2 := by rw [hs1]; exact IvC.wF hI (by decide) (by omega) (i32_rng _).1 (i32_rng _).2
  exact sX5_leastFrom_62 τ b1 k12 σ2 x3 x4 hI2 (by omega) (by omega) (by omega) (by omega) (fun y0 y1 y2 q0 q1 q2 q3 q4 q5 => hk12 y0 y1 y2 q0 q1 q2 q3 q4 (by omega))

theorem sX5_leastFrom_12 (τ : Nat) (b1 : Nat) : ∀ (n : Nat) (σ : S2) (x3 : Int32) (x4 : Int32), IvC 0 τ σ → 0 ≤ x3.toInt → x3.toInt ≤ 31 → (-1) ≤ x4.toInt → x4.toInt ≤ 31 → x4.toInt - (-1) < (n : Int) → Ok (fun z => IvC 0 τ z.2) (fX5_leastFrom_12 τ b1 n σ x3 x4) := by
  have hFU : ((FU : Nat) : Int) = 100000 := rfl
  intro n
  induction n with
  | zero => intro σ x3 x4 hI p9000 p9001 p9002 p9003 hm; exfalso; omega
  | succ n ih =>
    intro σ x3 x4 hI p9000 p9001 p9002 p9003 hm
    unfold fX5_leastFrom_12
    have : (0 : Int32).toInt = 0 := by decide
    refine ok_lt (fun h1 => ?_) (fun h1 => ?_)
    · refine ok_ck (by omega) (by omega) ?_
      have := i32_rng (σ.1 31 (Int32.toNatClampNeg 0))
      refine ok_nmI (fun v3 hv3 he2 => ?_)
      have := i32_rng v3
      have : ((-1) : Int32).toInt = (-1) := by decide
      refine ok_eq (fun h3 => ?_) (fun h3 => ?_)
      · exact ok_some hI
      · refine ok_bs (sX5_walk τ σ x3 hI (by omega) (by omega)) (fun r4 σ5 hr4 => ?_)
        have hr4 : IvC 0 τ σ5 := hr4
        refine ok_nm (fun σ7 hs6 => ?_)
        have hI7 : IvC 0 τ σ7 := by rw [hs6]; exact IvC.wF hr4 (by decide) (by omega) (show 0 ≤ (0 : Int32).toInt by omega) (show (0 : Int32).toInt ≤ 5 by omega)
        refine ok_ck (by omega) (by omega) ?_
        have := i32_rng (σ7.1 31 (Int32.toNatClampNeg 0))
        refine ok_nmI (fun v8 hv8 he8 => ?_)
        have := i32_rng v8
        exact ok_some hI7
    · refine ok_bs (sX5_seatSet τ b1 σ x4 hI (by omega) (by omega)) (fun r9 σ10 hr9 => ?_)
      obtain ⟨p10, p11, p12⟩ := hr9
      have p10 : IvC 0 τ σ10 := p10
      have p11 : 0 ≤ r9.toInt := p11
      have p12 : r9.toInt ≤ 1 := p12
      refine ok_eq (fun h13 => ?_) (fun h13 => ?_)
      · refine ok_ck (by omega) (by omega) ?_
        have : ((-1) : Int32).toInt = (-1) := by decide
        refine ok_nm (fun σ12 hs14 => ?_)
        have hI15 : IvC 0 τ σ12 := by rw [hs14]; exact IvC.wF p10 (by decide) (by omega) (i32_rng _).1 (i32_rng _).2
        exact sX5_leastFrom_62 τ b1 (fX5_leastFrom_12 τ b1 n) σ12 x3 x4 hI15 (by omega) (by omega) (by omega) (by omega) (fun y0 y1 y2 q0 q1 q2 q3 q4 q5 => ih y0 y1 y2 q0 q1 q2 q3 q4 (by omega))
      · refine ok_eq (fun h16 => ?_) (fun h16 => ?_)
        · exact sX5_leastFrom_50 τ b1 (fX5_leastFrom_12 τ b1 n) σ10 x3 x4 0 x4 p10 (by omega) (by omega) (by omega) (by omega) (by omega) (by omega) (fun y0 y1 y2 q0 q1 q2 q3 q4 q5 => ih y0 y1 y2 q0 q1 q2 q3 q4 (by omega))
        · refine ok_bi (sX5_leastOnward τ σ10 x4 p10 (by omega) (by omega)) (fun r13 hr17 => ?_)
          have := i32_rng r13
          exact sX5_leastFrom_50 τ b1 (fX5_leastFrom_12 τ b1 n) σ10 x3 x4 r13 x4 p10 (by omega) (by omega) (by omega) (by omega) (by omega) (by omega) (fun y0 y1 y2 q0 q1 q2 q3 q4 q5 => ih y0 y1 y2 q0 q1 q2 q3 q4 (by omega))

theorem sX5_leastFrom_0 (τ : Nat) (b1 : Nat) (σ : S2) (hI : IvC 0 τ σ)   : Ok (fun z => IvC 0 τ z.2) (fX5_leastFrom_0 τ b1 σ) := by
  have hFU : ((FU : Nat) : Int) = 100000 := rfl
  unfold fX5_leastFrom_0
  have : (1 : Int32).toInt = 1 := by decide
  have : 0 ≤ (σ.1 27 1).toInt ∧ (σ.1 27 1).toInt ≤ 5 := hI.1 27 1
  have : (31 : Int32).toInt = 31 := by decide
  have := i32_andR (a := (σ.1 27 1)) (m := 31) (by omega)
  have := i32_andL (a := (σ.1 27 1)) (m := 31) (by omega)
  have : 1 ≤ ((1 <<< ((σ.1 27 1) &&& 31)) : Int32).toInt ∧ ((1 <<< ((σ.1 27 1) &&& 31)) : Int32).toInt ≤ 32 := i32_shlB 5 (by omega) (by omega) (by decide)
  have : (((1 <<< ((σ.1 27 1) &&& 31)) - 1) : Int32).toInt = ((1 <<< ((σ.1 27 1) &&& 31)) : Int32).toInt - (1 : Int32).toInt := i32_sub (by omega) (by omega)
  refine ok_nmI (fun v15 hv15 he1 => ?_)
  exact sX5_leastFrom_12 τ b1 FU σ v15 v15 hI (by omega) (by omega) (by omega) (by omega) (by omega)

theorem sX5_leastFrom (τ : Nat) (b1 : Nat) (σ : S2) (hI : IvC 0 τ σ)   : Ok (fun z => IvC 0 τ z.2) (fX5_leastFrom τ b1 σ) := by
  unfold fX5_leastFrom
  exact sX5_leastFrom_0 τ b1 σ hI

theorem sX6_isKeptFor_106 (τ : Nat) (k2 : S2 → Int32 → Int32 → Int32 → Option (Int32 × S2)) (σ : S2) (x1 : Int32) (x2 : Int32) (x3 : Int32) (hI : IvC 0 τ σ) (p9000 : 0 ≤ x1.toInt) (p9001 : x1.toInt ≤ 11) (p9002 : 0 ≤ x2.toInt) (p9003 : x2.toInt ≤ 39) (p9004 : 0 ≤ x3.toInt) (p9005 : x3.toInt ≤ 11) (hk2 : ∀ (y0 : S2) (y1 : Int32) (y2 : Int32) (y3 : Int32), IvC 0 τ y0 → 0 ≤ y1.toInt → y1.toInt ≤ 11 → 0 ≤ y2.toInt → y2.toInt ≤ 39 → 0 ≤ y3.toInt → y3.toInt ≤ 12 → x3.toInt + 1 ≤ y3.toInt → Ok (fun z => IvC 0 τ z.2 ∧ 0 ≤ z.1.toInt ∧ z.1.toInt ≤ 1) (k2 y0 y1 y2 y3)) : Ok (fun z => IvC 0 τ z.2 ∧ 0 ≤ z.1.toInt ∧ z.1.toInt ≤ 1) (fX6_isKeptFor_106 τ k2 σ x1 x2 x3) := by
  have hFU : ((FU : Nat) : Int) = 100000 := rfl
  unfold fX6_isKeptFor_106
  have : (1 : Int32).toInt = 1 := by decide
  have : ((x3 + 1) : Int32).toInt = (x3 : Int32).toInt + (1 : Int32).toInt := i32_add (by omega) (by omega)
  refine ok_nmI (fun v1 hv1 he1 => ?_)
  exact hk2 σ x1 x2 v1 hI (by omega) (by omega) (by omega) (by omega) (by omega) (by omega) (by omega)

theorem sX6_isKeptFor_79 (τ : Nat) (σ : S2) (x1 : Int32) (x2 : Int32) (x4 : Int32) (hI : IvC 0 τ σ) (p9000 : 0 ≤ x1.toInt) (p9001 : x1.toInt ≤ 11) (p9002 : 0 ≤ x2.toInt) (p9003 : x2.toInt ≤ 39) (p9004 : 0 ≤ x4.toInt) (p9005 : x4.toInt ≤ 11)  : Ok (fun z => IvC 0 τ z.2 ∧ 0 ≤ z.1.toInt ∧ z.1.toInt ≤ 1) (fX6_isKeptFor_79 τ σ x1 x2 x4) := by
  have hFU : ((FU : Nat) : Int) = 100000 := rfl
  unfold fX6_isKeptFor_79
  refine ok_ck (by omega) (by omega) ?_
  refine ok_ck (by omega) (by omega) ?_
  have := i32_rng (σ.1 24 (Int32.toNatClampNeg x2))
  refine ok_nmI (fun v3 hv3 he1 => ?_)
  refine ok_ck (by omega) (by omega) ?_
  have := i32_rng v3
  refine ok_nm (fun σ4 hs2 => ?_)
  have hI3 : IvC 0 τ σ4 := by rw [hs2]; exact IvC.wR2 hI (by have := i32_nat (i := x4) (by omega); omega) (i32_rng _).1 (i32_rng _).2
  refine ok_ck (by omega) (by omega) ?_
  refine ok_ck (by omega) (by omega) ?_
  refine ok_nm (fun σ6 hs4 => ?_)
  have hI5 : IvC 0 τ σ6 := by rw [hs4]; exact IvC.wR3 hI3 (by have := i32_nat (i := x4) (by omega); omega) (show 0 ≤ (x1 : Int32).toInt by omega) (show (x1 : Int32).toInt ≤ 11 by omega)
  have : (1 : Int32).toInt = 1 := by decide
  exact ok_some ⟨hI5, by show 0 ≤ (1 : Int32).toInt; omega, by show (1 : Int32).toInt ≤ 1; omega⟩

theorem sX6_isKeptFor_2 (τ : Nat) : ∀ (n : Nat) (σ : S2) (x1 : Int32) (x2 : Int32) (x3 : Int32), IvC 0 τ σ → 0 ≤ x1.toInt → x1.toInt ≤ 11 → 0 ≤ x2.toInt → x2.toInt ≤ 39 → 0 ≤ x3.toInt → x3.toInt ≤ 12 → 12 - x3.toInt < (n : Int) → Ok (fun z => IvC 0 τ z.2 ∧ 0 ≤ z.1.toInt ∧ z.1.toInt ≤ 1) (fX6_isKeptFor_2 τ n σ x1 x2 x3) := by
  have hFU : ((FU : Nat) : Int) = 100000 := rfl
  intro n
  induction n with
  | zero => intro σ x1 x2 x3 hI p9000 p9001 p9002 p9003 p9004 p9005 hm; exfalso; omega
  | succ n ih =>
    intro σ x1 x2 x3 hI p9000 p9001 p9002 p9003 p9004 p9005 hm
    unfold fX6_isKeptFor_2
    have : 0 ≤ (σ.1 14 2).toInt ∧ (σ.1 14 2).toInt ≤ 12 := hI.1 14 2
    refine ok_le (fun h1 => ?_) (fun h1 => ?_)
    · have : (0 : Int32).toInt = 0 := by decide
      exact ok_some ⟨hI, by show 0 ≤ (0 : Int32).toInt; omega, by show (0 : Int32).toInt ≤ 1; omega⟩
    · refine ok_ck (by omega) (by omega) ?_
      have : 0 ≤ (σ.1 15 (Int32.toNatClampNeg x3)).toInt ∧ (σ.1 15 (Int32.toNatClampNeg x3)).toInt ≤ 11 := hI.1 15 (Int32.toNatClampNeg x3)
      refine ok_nmI (fun v7 hv7 he2 => ?_)
      refine ok_bi (sX1_isChosen τ σ v7 hI (by omega) (by omega)) (fun r8 hr3 => ?_)
      obtain ⟨p4, p5⟩ := hr3
      have p4 : 0 ≤ r8.toInt := p4
      have p5 : r8.toInt ≤ 1 := p5
      have : (0 : Int32).toInt = 0 := by decide
      refine ok_eq (fun h6 => ?_) (fun h6 => ?_)
      · refine ok_bi (sX2_isUp τ σ v7 hI (by omega) (by omega)) (fun r10 hr7 => ?_)
        obtain ⟨p8, p9⟩ := hr7
        have p8 : 0 ≤ r10.toInt := p8
        have p9 : r10.toInt ≤ 1 := p9
        refine ok_eq (fun h10 => ?_) (fun h10 => ?_)
        · exact sX6_isKeptFor_106 τ (fX6_isKeptFor_2 τ n) σ x1 x2 x3 hI (by omega) (by omega) (by omega) (by omega) (by omega) (by omega) (fun y0 y1 y2 y3 q0 q1 q2 q3 q4 q5 q6 q7 => ih y0 y1 y2 y3 q0 q1 q2 q3 q4 q5 q6 (by omega))
        · refine ok_ck (by omega) (by omega) ?_
          refine ok_ck (by omega) (by omega) ?_
          have := i32_rng (σ.1 (96 + (Int32.toNatClampNeg v7)) (Int32.toNatClampNeg x2))
          refine ok_nmI (fun v13 hv13 he11 => ?_)
          have := i32_rng v13
          refine ok_le (fun h12 => ?_) (fun h12 => ?_)
          · exact sX6_isKeptFor_79 τ σ x1 x2 v7 hI (by omega) (by omega) (by omega) (by omega) (by omega) (by omega)
          · refine ok_ck (by omega) (by omega) ?_
            refine ok_ck (by omega) (by omega) ?_
            have : 0 ≤ (σ.1 (108 + (Int32.toNatClampNeg v7)) (Int32.toNatClampNeg x2)).toInt ∧ (σ.1 (108 + (Int32.toNatClampNeg v7)) (Int32.toNatClampNeg x2)).toInt ≤ 11 := hI.1.r3 _ _ (by have := i32_nat (i := v7) (by omega); omega)
            refine ok_nmI (fun v15 hv15 he13 => ?_)
            refine ok_eq (fun h14 => ?_) (fun h14 => ?_)
            · exact sX6_isKeptFor_79 τ σ x1 x2 v7 hI (by omega) (by omega) (by omega) (by omega) (by omega) (by omega)
            · exact sX6_isKeptFor_106 τ (fX6_isKeptFor_2 τ n) σ x1 x2 x3 hI (by omega) (by omega) (by omega) (by omega) (by omega) (by omega) (fun y0 y1 y2 y3 q0 q1 q2 q3 q4 q5 q6 q7 => ih y0 y1 y2 y3 q0 q1 q2 q3 q4 q5 q6 (by omega))
      · exact sX6_isKeptFor_106 τ (fX6_isKeptFor_2 τ n) σ x1 x2 x3 hI (by omega) (by omega) (by omega) (by omega) (by omega) (by omega) (fun y0 y1 y2 y3 q0 q1 q2 q3 q4 q5 q6 q7 => ih y0 y1 y2 y3 q0 q1 q2 q3 q4 q5 q6 (by omega))

theorem sX6_isKeptFor_0 (τ : Nat) (σ : S2) (x1 : Int32) (x2 : Int32) (hI : IvC 0 τ σ) (p9000 : 0 ≤ x1.toInt) (p9001 : x1.toInt ≤ 11) (p9002 : 0 ≤ x2.toInt) (p9003 : x2.toInt ≤ 39)  : Ok (fun z => IvC 0 τ z.2 ∧ 0 ≤ z.1.toInt ∧ z.1.toInt ≤ 1) (fX6_isKeptFor_0 τ σ x1 x2) := by
  have hFU : ((FU : Nat) : Int) = 100000 := rfl
  unfold fX6_isKeptFor_0
  have : (0 : Int32).toInt = 0 := by decide
  exact sX6_isKeptFor_2 τ FU σ x1 x2 0 hI (by omega) (by omega) (by omega) (by omega) (by omega) (by omega) (by omega)

theorem sX6_isKeptFor (τ : Nat) (σ : S2) (a1 : Int32) (a2 : Int32) (hI : IvC 0 τ σ) (p9000 : 0 ≤ a1.toInt) (p9001 : a1.toInt ≤ 11) (p9002 : 0 ≤ a2.toInt) (p9003 : a2.toInt ≤ 39)  : Ok (fun z => IvC 0 τ z.2 ∧ 0 ≤ z.1.toInt ∧ z.1.toInt ≤ 1) (fX6_isKeptFor τ σ a1 a2) := by
  unfold fX6_isKeptFor
  exact sX6_isKeptFor_0 τ σ a1 a2 hI (by assumption) (by assumption) (by assumption) (by assumption)

theorem sX6_filled_30 (τ : Nat) (c0 : Nat) (n0 : Nat) (k10 : S2 → Int32 → Int32 → Int32 → Option Int32) (σ : S2) (x1 : Int32) (x3 : Int32) (x4 : Int32) (hI : IvC 0 τ σ) (p9000 : 1 ≤ x3.toInt) (p9001 : x3.toInt ≤ 1000) (p9002 : 0 ≤ x4.toInt) (p9003 : x4.toInt ≤ 999) (p9004 : (n0 : Int) ≤ 1000) (p9005 : x3.toInt ≤ (n0 : Int)) (hk10 : ∀ (y0 : S2) (y1 : Int32) (y2 : Int32) (y3 : Int32), IvC 0 τ y0 → 0 ≤ y2.toInt → y2.toInt ≤ 1000 → 0 ≤ y3.toInt → y3.toInt ≤ 1000 → (n0 : Int) ≤ 1000 → y2.toInt ≤ (n0 : Int) → x4.toInt + 1 ≤ y3.toInt → Ok (fun z => True) (k10 y0 y1 y2 y3)) : Ok (fun z => True) (fX6_filled_30 τ c0 n0 k10 σ x1 x3 x4) := by
  have hFU : ((FU : Nat) : Int) = 100000 := rfl
  unfold fX6_filled_30
  have : (1 : Int32).toInt = 1 := by decide
  have : ((x4 + 1) : Int32).toInt = (x4 : Int32).toInt + (1 : Int32).toInt := i32_add (by omega) (by omega)
  refine ok_nmI (fun v1 hv1 he1 => ?_)
  have := i32_rng x1
  exact hk10 σ x1 x3 v1 hI (by omega) (by omega) (by omega) (by omega) (by omega) (by omega) (by omega)

