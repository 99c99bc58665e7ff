theorem sX5_walk_0 (τ : Nat) (σ : S2) (x1 : Int32) (hI : IvC 0 τ σ) (p9000 : 0 ≤ x1.toInt) (p9001 : x1.toInt ≤ 31)  : Ok (fun z => IvC 0 τ z.2) (fX5_walk_0 τ σ x1) := by
  have hFU : ((FU : Nat) : Int) = 100000 := rfl
  unfold fX5_walk_0
  have : (0 : Int32).toInt = 0 := by decide
  refine ok_nm (fun σ7 hs1 => ?_)
  have hI2 : IvC 0 τ σ7 := by rw [hs1]; exact IvC.wF hI (by decide) (by omega) (show 0 ≤ (0 : Int32).toInt by omega) (show (0 : Int32).toInt ≤ 5 by omega)
  have : (σ7.1 27 3).toInt = (0 : Int32).toInt := by rw [hs1]; rfl
  have : (σ7.1 27 1).toInt = (σ.1 27 1).toInt := by rw [hs1]; rfl
  exact sX5_walk_9 τ FU σ7 x1 0 0 hI2 (by omega) (by omega) (by omega) (by omega) (by omega) (by omega) (by omega) (by omega)

theorem sX5_walk (τ : Nat) (σ : S2) (a1 : Int32) (hI : IvC 0 τ σ) (p9000 : 0 ≤ a1.toInt) (p9001 : a1.toInt ≤ 31)  : Ok (fun z => IvC 0 τ z.2) (fX5_walk τ σ a1) := by
  unfold fX5_walk
  exact sX5_walk_0 τ σ a1 hI (by assumption) (by assumption)

theorem sX5_leastFrom_62 (τ : Nat) (b1 : Nat) (k12 : S2 → Int32 → Int32 → Option (Int32 × S2)) (σ : S2) (x3 : Int32) (x4 : Int32) (hI : IvC 0 τ σ) (p9000 : 0 ≤ x3.toInt) (p9001 : x3.toInt ≤ 31) (p9002 : 0 ≤ x4.toInt) (p9003 : x4.toInt ≤ 31) (hk12 : ∀ (y0 : S2) (y1 : Int32) (y2 : Int32), IvC 0 τ y0 → 0 ≤ y1.toInt → y1.toInt ≤ 31 → (-1) ≤ y2.toInt → y2.toInt ≤ 31 → y2.toInt ≤ x4.toInt - 1 → Ok (fun z => IvC 0 τ z.2) (k12 y0 y1 y2)) : Ok (fun z => IvC 0 τ z.2) (fX5_leastFrom_62 τ b1 k12 σ x3 x4) := by
  have hFU : ((FU : Nat) : Int) = 100000 := rfl
  unfold fX5_leastFrom_62
  refine ok_nmI (fun v1 hv1 he1 => ?_)
  have : v1.toInt = x4.toInt - 1 := by rw [he1]; exact i32_addm1 (by omega)
  clear hv1 he1
  exact hk12 σ x3 v1 hI (by omega) (by omega) (by omega) (by omega) (by omega)

theorem sX5_leastFrom_50 (τ : Nat) (b1 : Nat) (k12 : S2 → Int32 → Int32 → Option (Int32 × S2)) (σ : S2) (x3 : Int32) (x4 : Int32) (s0 : Int32) (s1 : Int32) (hI : IvC 0 τ σ) (p9000 : 0 ≤ x3.toInt) (p9001 : x3.toInt ≤ 31) (p9002 : 0 ≤ x4.toInt) (p9003 : x4.toInt ≤ 31) (p9004 : 0 ≤ s1.toInt) (p9005 : s1.toInt ≤ 31) (hk12 : ∀ (y0 : S2) (y1 : Int32) (y2 : Int32), IvC 0 τ y0 → 0 ≤ y1.toInt → y1.toInt ≤ 31 → (-1) ≤ y2.toInt → y2.toInt ≤ 31 → y2.toInt ≤ x4.toInt - 1 → Ok (fun z => IvC 0 τ z.2) (k12 y0 y1 y2)) : Ok (fun z => IvC 0 τ z.2) (fX5_leastFrom_50 τ b1 k12 σ x3 x4 s0 s1) := by
  have hFU : ((FU : Nat) : Int) = 100000 := rfl
  unfold fX5_leastFrom_50
  refine ok_ck (by omega) (by omega) ?_
  have := i32_rng s0
  refine ok_nm (fun σ2 hs1 => ?_)
  have hI2 : IvC 0 τ σ2 := by rw [hs1]; exact IvC.wF hI (by decide) (by omega) (i32_rng _).1 (i32_rng _).2
  exact sX5_leastFrom_62 τ b1 k12 σ2 x3 x4 hI2 (by omega) (by omega) (by omega) (by omega) (fun y0 y1 y2 q0 q1 q2 q3 q4 q5 => hk12 y0 y1 y2 q0 q1 q2 q3 q4 (by omega))

theorem sX5_leastFrom_12 (τ : Nat) (b1 : Nat) : ∀ (n : Nat) (σ : S2) (x3 : Int32) (x4 : Int32), IvC 0 τ σ → 0 ≤ x3.toInt → x3.toInt ≤ 31 → (-1) ≤ x4.toInt → x4.toInt ≤ 31 → x4.toInt - (-1) < (n : Int) → Ok (fun z => IvC 0 τ z.2) (fX5_leastFrom_12 τ b1 n σ x3 x4) := by
  have hFU : ((FU : Nat) : Int) = 100000 := rfl
  intro n
  induction n with
  | zero => intro σ x3 x4 hI p9000 p9001 p9002 p9003 hm; exfalso; omega
  | succ n ih =>
    intro σ x3 x4 hI p9000 p9001 p9002 p9003 hm
    unfold fX5_leastFrom_12
    have : (0 : Int32).toInt = 0 := by decide
    refine ok_lt (fun h1 => ?_) (fun h1 => ?_)
    · refine ok_ck (by omega) (by omega) ?_
      have := i32_rng (σ.1 31 (Int32.toNatClampNeg 0))
      refine ok_nmI (fun v3 hv3 he2 => ?_)
      have := i32_rng v3
      have : ((-1) : Int32).toInt = (-1) := by decide
      refine ok_eq (fun h3 => ?_) (fun h3 => ?_)
      · exact ok_some hI
      · refine ok_bs (sX5_walk τ σ x3 hI (by omega) (by omega)) (fun r4 σ5 hr4 => ?_)
        have hr4 : IvC 0 τ σ5 := hr4
        refine ok_nm (fun σ7 hs6 => ?_)
        have hI7 : IvC 0 τ σ7 := by rw [hs6]; exact IvC.wF hr4 (by decide) (by omega) (show 0 ≤ (0 : Int32).toInt by omega) (show (0 : Int32).toInt ≤ 5 by omega)
        refine ok_ck (by omega) (by omega) ?_
        have := i32_rng (σ7.1 31 (Int32.toNatClampNeg 0))
        refine ok_nmI (fun v8 hv8 he8 => ?_)
        have := i32_rng v8
        exact ok_some hI7
    · refine ok_bs (sX5_seatSet τ b1 σ x4 hI (by omega) (by omega)) (fun r9 σ10 hr9 => ?_)
      obtain ⟨p10, p11, p12⟩ := hr9
      have p10 : IvC 0 τ σ10 := p10
      have p11 : 0 ≤ r9.toInt := p11
      have p12 : r9.toInt ≤ 1 := p12
      refine ok_eq (fun h13 => ?_) (fun h13 => ?_)
      · refine ok_ck (by omega) (by omega) ?_
        have : ((-1) : Int32).toInt = (-1) := by decide
        refine ok_nm (fun σ12 hs14 => ?_)
        have hI15 : IvC 0 τ σ12 := by rw [hs14]; exact IvC.wF p10 (by decide) (by omega) (i32_rng _).1 (i32_rng _).2
        exact sX5_leastFrom_62 τ b1 (fX5_leastFrom_12 τ b1 n) σ12 x3 x4 hI15 (by omega) (by omega) (by omega) (by omega) (fun y0 y1 y2 q0 q1 q2 q3 q4 q5 => ih y0 y1 y2 q0 q1 q2 q3 q4 (by omega))
      · refine ok_eq (fun h16 => ?_) (fun h16 => ?_)
        · exact sX5_leastFrom_50 τ b1 (fX5_leastFrom_12 τ b1 n) σ10 x3 x4 0 x4 p10 (by omega) (by omega) (by omega) (by omega) (by omega) (by omega) (fun y0 y1 y2 q0 q1 q2 q3 q4 q5 => ih y0 y1 y2 q0 q1 q2 q3 q4 (by omega))
        · refine ok_bi (sX5_leastOnward τ σ10 x4 p10 (by omega) (by omega)) (fun r13 hr17 => ?_)
          have := i32_rng r13
          exact sX5_leastFrom_50 τ b1 (fX5_leastFrom_12 τ b1 n) σ10 x3 x4 r13 x4 p10 (by omega) (by omega) (by omega) (by omega) (by omega) (by omega) (fun y0 y1 y2 q0 q1 q2 q3 q4 q5 => ih y0 y1 y2 q0 q1 q2 q3 q4 (by omega))

theorem sX5_leastFrom_0 (τ : Nat) (b1 : Nat) (σ : S2) (hI : IvC 0 τ σ)   : Ok (fun z => IvC 0 τ z.2) (fX5_leastFrom_0 τ b1 σ) := by
  have hFU : ((FU : Nat) : Int) = 100000 := rfl
  unfold fX5_leastFrom_0
  have : (1 : Int32).toInt = 1 := by decide
  have : 0 ≤ (σ.1 27 1).toInt ∧ (σ.1 27 1).toInt ≤ 5 := hI.1 27 1
  have : (31 : Int32).toInt = 31 := by decide
  have := i32_andR (a := (σ.1 27 1)) (m := 31) (by omega)
  have := i32_andL (a := (σ.1 27 1)) (m := 31) (by omega)
  have : 1 ≤ ((1 <<< ((σ.1 27 1) &&& 31)) : Int32).toInt ∧ ((1 <<< ((σ.1 27 1) &&& 31)) : Int32).toInt ≤ 32 := i32_shlB 5 (by omega) (by omega) (by decide)
  have : (((1 <<< ((σ.1 27 1) &&& 31)) - 1) : Int32).toInt = ((1 <<< ((σ.1 27 1) &&& 31)) : Int32).toInt - (1 : Int32).toInt := i32_sub (by omega) (by omega)
  refine ok_nmI (fun v15 hv15 he1 => ?_)
  exact sX5_leastFrom_12 τ b1 FU σ v15 v15 hI (by omega) (by omega) (by omega) (by omega) (by omega)

theorem sX5_leastFrom (τ : Nat) (b1 : Nat) (σ : S2) (hI : IvC 0 τ σ)   : Ok (fun z => IvC 0 τ z.2) (fX5_leastFrom τ b1 σ) := by
  unfold fX5_leastFrom
  exact sX5_leastFrom_0 τ b1 σ hI

theorem sX6_isKeptFor_106 (τ : Nat) (k2 : S2 → Int32 → Int32 → Int32 → Option (Int32 × S2)) (σ : S2) (x1 : Int32) (x2 : Int32) (x3 : Int32) (hI : IvC 0 τ σ) (p9000 : 0 ≤ x1.toInt) (p9001 : x1.toInt ≤ 11) (p9002 : 0 ≤ x2.toInt) (p9003 : x2.toInt ≤ 39) (p9004 : 0 ≤ x3.toInt) (p9005 : x3.toInt ≤ 11) (hk2 : ∀ (y0 : S2) (y1 : Int32) (y2 : Int32) (y3 : Int32), IvC 0 τ y0 → 0 ≤ y1.toInt → y1.toInt ≤ 11 → 0 ≤ y2.toInt → y2.toInt ≤ 39 → 0 ≤ y3.toInt → y3.toInt ≤ 12 → x3.toInt + 1 ≤ y3.toInt → Ok (fun z => IvC 0 τ z.2 ∧ 0 ≤ z.1.toInt ∧ z.1.toInt ≤ 1) (k2 y0 y1 y2 y3)) : Ok (fun z => IvC 0 τ z.2 ∧ 0 ≤ z.1.toInt ∧ z.1.toInt ≤ 1) (fX6_isKeptFor_106 τ k2 σ x1 x2 x3) := by
  have hFU : ((FU : Nat) : Int) = 100000 := rfl
  unfold fX6_isKeptFor_106
  have : (1 : Int32).toInt = 1 := by decide
  have : ((x3 + 1) : Int32).toInt = (x3 : Int32).toInt + (1 : Int32).toInt := i32_add (by omega) (by omega)
  refine ok_nmI (fun v1 hv1 he1 => ?_)
  exact hk2 σ x1 x2 v1 hI (by omega) (by omega) (by omega) (by omega) (by omega) (by omega) (by omega)

theorem sX6_isKeptFor_79 (τ : Nat) (σ : S2) (x1 : Int32) (x2 : Int32) (x4 : Int32) (hI : IvC 0 τ σ) (p9000 : 0 ≤ x1.toInt) (p9001 : x1.toInt ≤ 11) (p9002 : 0 ≤ x2.toInt) (p9003 : x2.toInt ≤ 39) (p9004 : 0 ≤ x4.toInt) (p9005 : x4.toInt ≤ 11)  : Ok (fun z => IvC 0 τ z.2 ∧ 0 ≤ z.1.toInt ∧ z.1.toInt ≤ 1) (fX6_isKeptFor_79 τ σ x1 x2 x4) := by
  have hFU : ((FU : Nat) : Int) = 100000 := rfl
  unfold fX6_isKeptFor_79
  refine ok_ck (by omega) (by omega) ?_
  refine ok_ck (by omega) (by omega) ?_
  have := i32_rng (σ.1 24 (Int32.toNatClampNeg x2))
  refine ok_nmI (fun v3 hv3 he1 => ?_)
  refine ok_ck (by omega) (by omega) ?_
  have := i32_rng v3
  refine ok_nm (fun σ4 hs2 => ?_)
  have hI3 : IvC 0 τ σ4 := by rw [hs2]; exact IvC.wR2 hI (by have := i32_nat (i := x4) (by omega); omega) (i32_rng _).1 (i32_rng _).2
  refine ok_ck (by omega) (by omega) ?_
  refine ok_ck (by omega) (by omega) ?_
  refine ok_nm (fun σ6 hs4 => ?_)
  have hI5 : IvC 0 τ σ6 := by rw [hs4]; exact IvC.wR3 hI3 (by have := i32_nat (i := x4) (by omega); omega) (show 0 ≤ (x1 : Int32).toInt by omega) (show (x1 : Int32).toInt ≤ 11 by omega)
  have : (1 : Int32).toInt = 1 := by decide
  exact ok_some ⟨hI5, by show 0 ≤ (1 : Int32).toInt; omega, by show (1 : Int32).toInt ≤ 1; omega⟩

theorem sX6_isKeptFor_2 (τ : Nat) : ∀ (n : Nat) (σ : S2) (x1 : Int32) (x2 : Int32) (x3 : Int32), IvC 0 τ σ → 0 ≤ x1.toInt → x1.toInt ≤ 11 → 0 ≤ x2.toInt → x2.toInt ≤ 39 → 0 ≤ x3.toInt → x3.toInt ≤ 12 → 12 - x3.toInt < (n : Int) → Ok (fun z => IvC 0 τ z.2 ∧ 0 ≤ z.1.toInt ∧ z.1.toInt ≤ 1) (fX6_isKeptFor_2 τ n σ x1 x2 x3) := by
  have hFU : ((FU : Nat) : Int) = 100000 := rfl
  intro n
  induction n with
  | zero => intro σ x1 x2 x3 hI p9000 p9001 p9002 p9003 p9004 p9005 hm; exfalso; omega
  | succ n ih =>
    intro σ x1 x2 x3 hI p9000 p9001 p9002 p9003 p9004 p9005 hm
    unfold fX6_isKeptFor_2
    have : 0 ≤ (σ.1 14 2).toInt ∧ (σ.1 14 2).toInt ≤ 12 := hI.1 14 2
    refine ok_le (fun h1 => ?_) (fun h1 => ?_)
    · have : (0 : Int32).toInt = 0 := by decide
      exact ok_some ⟨hI, by show 0 ≤ (0 : Int32).toInt; omega, by show (0 : Int32).toInt ≤ 1; omega⟩
    · refine ok_ck (by omega) (by omega) ?_
      have : 0 ≤ (σ.1 15 (Int32.toNatClampNeg x3)).toInt ∧ (σ.1 15 (Int32.toNatClampNeg x3)).toInt ≤ 11 := hI.1 15 (Int32.toNatClampNeg x3)
      refine ok_nmI (fun v7 hv7 he2 => ?_)
      refine ok_bi (sX1_isChosen τ σ v7 hI (by omega) (by omega)) (fun r8 hr3 => ?_)
      obtain ⟨p4, p5⟩ := hr3
      have p4 : 0 ≤ r8.toInt := p4
      have p5 : r8.toInt ≤ 1 := p5
      have : (0 : Int32).toInt = 0 := by decide
      refine ok_eq (fun h6 => ?_) (fun h6 => ?_)
      · refine ok_bi (sX2_isUp τ σ v7 hI (by omega) (by omega)) (fun r10 hr7 => ?_)
        obtain ⟨p8, p9⟩ := hr7
        have p8 : 0 ≤ r10.toInt := p8
        have p9 : r10.toInt ≤ 1 := p9
        refine ok_eq (fun h10 => ?_) (fun h10 => ?_)
        · exact sX6_isKeptFor_106 τ (fX6_isKeptFor_2 τ n) σ x1 x2 x3 hI (by omega) (by omega) (by omega) (by omega) (by omega) (by omega) (fun y0 y1 y2 y3 q0 q1 q2 q3 q4 q5 q6 q7 => ih y0 y1 y2 y3 q0 q1 q2 q3 q4 q5 q6 (by omega))
        · refine ok_ck (by omega) (by omega) ?_
          refine ok_ck (by omega) (by omega) ?_
          have := i32_rng (σ.1 (96 + (Int32.toNatClampNeg v7)) (Int32.toNatClampNeg x2))
          refine ok_nmI (fun v13 hv13 he11 => ?_)
          have := i32_rng v13
          refine ok_le (fun h12 => ?_) (fun h12 => ?_)
          · exact sX6_isKeptFor_79 τ σ x1 x2 v7 hI (by omega) (by omega) (by omega) (by omega) (by omega) (by omega)
          · refine ok_ck (by omega) (by omega) ?_
            refine ok_ck (by omega) (by omega) ?_
            have : 0 ≤ (σ.1 (108 + (Int32.toNatClampNeg v7)) (Int32.toNatClampNeg x2)).toInt ∧ (σ.1 (108 + (Int32.toNatClampNeg v7)) (Int32.toNatClampNeg x2)).toInt ≤ 11 := hI.1.r3 _ _ (by have := i32_nat (i := v7) (by omega); omega)
            refine ok_nmI (fun v15 hv15 he13 => ?_)
            refine ok_eq (fun h14 => ?_) (fun h14 => ?_)
            · exact sX6_isKeptFor_79 τ σ x1 x2 v7 hI (by omega) (by omega) (by omega) (by omega) (by omega) (by omega)
            · exact sX6_isKeptFor_106 τ (fX6_isKeptFor_2 τ n) σ x1 x2 x3 hI (by omega) (by omega) (by omega) (by omega) (by omega) (by omega) (fun y0 y1 y2 y3 q0 q1 q2 q3 q4 q5 q6 q7 => ih y0 y1 y2 y3 q0 q1 q2 q3 q4 q5 q6 (by omega))
      · exact sX6_isKeptFor_106 τ (fX6_isKeptFor_2 τ n) σ x1 x2 x3 hI (by omega) (by omega) (by omega) (by omega) (by omega) (by omega) (fun y0 y1 y2 y3 q0 q1 q2 q3 q4 q5 q6 q7 => ih y0 y1 y2 y3 q0 q1 q2 q3 q4 q5 q6 (by omega))

theorem sX6_isKeptFor_0 (τ : Nat) (σ : S2) (x1 : Int32) (x2 : Int32) (hI : IvC 0 τ σ) (p9000 : 0 ≤ x1.toInt) (p9001 : x1.toInt ≤ 11) (p9002 : 0 ≤ x2.toInt) (p9003 : x2.toInt ≤ 39)  : Ok (fun z => IvC 0 τ z.2 ∧ 0 ≤ z.1.toInt ∧ z.1.toInt ≤ 1) (fX6_isKeptFor_0 τ σ x1 x2) := by
  have hFU : ((FU : Nat) : Int) = 100000 := rfl
  unfold fX6_isKeptFor_0
  have : (0 : Int32).toInt = 0 := by decide
  exact sX6_isKeptFor_2 τ FU σ x1 x2 0 hI (by omega) (by omega) (by omega) (by omega) (by omega) (by omega) (by omega)

theorem sX6_isKeptFor (τ : Nat) (σ : S2) (a1 : Int32) (a2 : Int32) (hI : IvC 0 τ σ) (p9000 : 0 ≤ a1.toInt) (p9001 : a1.toInt ≤ 11) (p9002 : 0 ≤ a2.toInt) (p9003 : a2.toInt ≤ 39)  : Ok (fun z => IvC 0 τ z.2 ∧ 0 ≤ z.1.toInt ∧ z.1.toInt ≤ 1) (fX6_isKeptFor τ σ a1 a2) := by
  unfold fX6_isKeptFor
  exact sX6_isKeptFor_0 τ σ a1 a2 hI (by assumption) (by assumption) (by assumption) (by assumption)

theorem sX6_filled_30 (τ : Nat) (c0 : Nat) (n0 : Nat) (k10 : S2 → Int32 → Int32 → Int32 → Option Int32) (σ : S2) (x1 : Int32) (x3 : Int32) (x4 : Int32) (hI : IvC 0 τ σ) (p9000 : 1 ≤ x3.toInt) (p9001 : x3.toInt ≤ 1000) (p9002 : 0 ≤ x4.toInt) (p9003 : x4.toInt ≤ 999) (p9004 : (n0 : Int) ≤ 1000) (p9005 : x3.toInt ≤ (n0 : Int)) (hk10 : ∀ (y0 : S2) (y1 : Int32) (y2 : Int32) (y3 : Int32), IvC 0 τ y0 → 0 ≤ y2.toInt → y2.toInt ≤ 1000 → 0 ≤ y3.toInt → y3.toInt ≤ 1000 → (n0 : Int) ≤ 1000 → y2.toInt ≤ (n0 : Int) → x4.toInt + 1 ≤ y3.toInt → Ok (fun z => True) (k10 y0 y1 y2 y3)) : Ok (fun z => True) (fX6_filled_30 τ c0 n0 k10 σ x1 x3 x4) := by
  have hFU : ((FU : Nat) : Int) = 100000 := rfl
  unfold fX6_filled_30
  have : (1 : Int32).toInt = 1 := by decide
  have : ((x4 + 1) : Int32).toInt = (x4 : Int32).toInt + (1 : Int32).toInt := i32_add (by omega) (by omega)
  refine ok_nmI (fun v1 hv1 he1 => ?_)
  have := i32_rng x1
  exact hk10 σ x1 x3 v1 hI (by omega) (by omega) (by omega) (by omega) (by omega) (by omega) (by omega)

theorem sX6_filled_10 (τ : Nat) (c0 : Nat) (n0 : Nat) : ∀ (n : Nat) (σ : S2) (x1 : Int32) (x3 : Int32) (x4 : Int32), IvC 0 τ σ → 0 ≤ x3.toInt → x3.toInt ≤ 1000 → 0 ≤ x4.toInt → x4.toInt ≤ 1000 → (n0 : Int) ≤ 1000 → x3.toInt ≤ (n0 : Int) → 1000 - x4.toInt < (n : Int) → Ok (fun z => True) (fX6_filled_10 τ c0 n0 n σ x1 x3 x4) := by
  have hFU : ((FU : Nat) : Int) = 100000 := rfl
  intro n
  induction n with
  | zero => intro σ x1 x3 x4 hI p9000 p9001 p9002 p9003 p9004 p9005 hm; exfalso; omega
  | succ n ih =>
    intro σ x1 x3 x4 hI p9000 p9001 p9002 p9003 p9004 p9005 hm
    unfold fX6_filled_10
    refine ok_le (fun h1 => ?_) (fun h1 => ?_)
    · have := i32_rng x1
      exact ok_some trivial
    · refine ok_ck (by omega) (by omega) ?_
      have := i32_rng (σ.1 c0 (Int32.toNatClampNeg x4))
      refine ok_nmI (fun v2 hv2 he2 => ?_)
      have := i32_rng v2
      have : (0 : Int32).toInt = 0 := by decide
      refine ok_le (fun h3 => ?_) (fun h3 => ?_)
      · have := i32_rng x1
        exact sX6_filled_30 τ c0 n0 (fX6_filled_10 τ c0 n0 n) σ x1 x3 x4 hI (by omega) (by omega) (by omega) (by omega) (by omega) (by omega) (fun y0 y1 y2 y3 q0 q1 q2 q3 q4 q5 q6 q7 => ih y0 y1 y2 y3 q0 q1 q2 q3 q4 q5 q6 (by omega))
      · have := i32_rng x1
        have : (1 : Int32).toInt = 1 := by decide
        have := i32_rng (x1 + 1)
        refine ok_nmI (fun v3 hv3 he4 => ?_)
        have := i32_rng v3
        exact sX6_filled_30 τ c0 n0 (fX6_filled_10 τ c0 n0 n) σ v3 x3 x4 hI (by omega) (by omega) (by omega) (by omega) (by omega) (by omega) (fun y0 y1 y2 y3 q0 q1 q2 q3 q4 q5 q6 q7 => ih y0 y1 y2 y3 q0 q1 q2 q3 q4 q5 q6 (by omega))

theorem sX6_filled_0 (τ : Nat) (c0 : Nat) (n0 : Nat) (σ : S2) (hI : IvC 0 τ σ) (p9000 : (n0 : Int) ≤ 1000)  : Ok (fun z => True) (fX6_filled_0 τ c0 n0 σ) := by
  have hFU : ((FU : Nat) : Int) = 100000 := rfl
  unfold fX6_filled_0
  have : ((Int32.ofNat n0) : Int32).toInt = (n0 : Int) := i32_ofNat (by omega)
  refine ok_nmI (fun v4 hv4 he1 => ?_)
  have : (0 : Int32).toInt = 0 := by decide
  exact sX6_filled_10 τ c0 n0 FU σ 0 v4 0 hI (by omega) (by omega) (by omega) (by omega) (by omega) (by omega) (by omega)

theorem sX6_filled (τ : Nat) (c0 : Nat) (n0 : Nat) (σ : S2) (hI : IvC 0 τ σ) (p9000 : (n0 : Int) ≤ 1000)  : Ok (fun z => True) (fX6_filled τ c0 n0 σ) := by
  unfold fX6_filled
  exact sX6_filled_0 τ c0 n0 σ hI (by assumption)

theorem sX6_copiesOn_0 (τ : Nat) (σ : S2) (x1 : Int32) (hI : IvC 0 τ σ) (p9000 : 0 ≤ x1.toInt) (p9001 : x1.toInt ≤ 11)  : Ok (fun z => True) (fX6_copiesOn_0 τ σ x1) := by
  have hFU : ((FU : Nat) : Int) = 100000 := rfl
  unfold fX6_copiesOn_0
  refine ok_ck (by omega) (by omega) ?_
  refine ok_bi (sX6_filled τ (84 + (Int32.toNatClampNeg x1)) 40 σ hI (by omega)) (fun r2 hr1 => ?_)
  have := i32_rng r2
  exact ok_some trivial

theorem sX6_copiesOn (τ : Nat) (σ : S2) (a1 : Int32) (hI : IvC 0 τ σ) (p9000 : 0 ≤ a1.toInt) (p9001 : a1.toInt ≤ 11)  : Ok (fun z => True) (fX6_copiesOn τ σ a1) := by
  unfold fX6_copiesOn
  exact sX6_copiesOn_0 τ σ a1 hI (by assumption) (by assumption)

theorem sX6_hasRoom_0 (τ : Nat) (σ : S2) (x1 : Int32) (x2 : Int32) (hI : IvC 0 τ σ) (p9000 : 0 ≤ x1.toInt) (p9001 : x1.toInt ≤ 11) (p9002 : 0 ≤ x2.toInt) (p9003 : x2.toInt ≤ 39)  : Ok (fun z => 0 ≤ z.toInt ∧ z.toInt ≤ 1) (fX6_hasRoom_0 τ σ x1 x2) := by
  have hFU : ((FU : Nat) : Int) = 100000 := rfl
  unfold fX6_hasRoom_0
  refine ok_ck (by omega) (by omega) ?_
  have : 0 ≤ (σ.1 8 (Int32.toNatClampNeg x1)).toInt ∧ (σ.1 8 (Int32.toNatClampNeg x1)).toInt ≤ 6 := hI.1 8 (Int32.toNatClampNeg x1)
  refine ok_nmI (fun v1 hv1 he1 => ?_)
  have : (6 : Int32).toInt = 6 := by decide
  refine ok_eq (fun h2 => ?_) (fun h2 => ?_)
  · refine ok_ck (by omega) (by omega) ?_
    refine ok_ck (by omega) (by omega) ?_
    have := i32_rng (σ.1 (84 + (Int32.toNatClampNeg x1)) (Int32.toNatClampNeg x2))
    refine ok_nmI (fun v3 hv3 he3 => ?_)
    have := i32_rng v3
    have : (0 : Int32).toInt = 0 := by decide
    refine ok_le (fun h4 => ?_) (fun h4 => ?_)
    · refine ok_bi (sX6_copiesOn τ σ x1 hI (by omega) (by omega)) (fun r4 hr5 => ?_)
      have : (8 : Int32).toInt = 8 := by decide
      have := i32_rng r4
      refine ok_le (fun h6 => ?_) (fun h6 => ?_)
      · exact ok_some ⟨by show 0 ≤ (0 : Int32).toInt; omega, by show (0 : Int32).toInt ≤ 1; omega⟩
      · have : (1 : Int32).toInt = 1 := by decide
        exact ok_some ⟨by show 0 ≤ (1 : Int32).toInt; omega, by show (1 : Int32).toInt ≤ 1; omega⟩
    · have : (1 : Int32).toInt = 1 := by decide
      exact ok_some ⟨by show 0 ≤ (1 : Int32).toInt; omega, by show (1 : Int32).toInt ≤ 1; omega⟩
  · have : (1 : Int32).toInt = 1 := by decide
    exact ok_some ⟨by show 0 ≤ (1 : Int32).toInt; omega, by show (1 : Int32).toInt ≤ 1; omega⟩

theorem sX6_hasRoom (τ : Nat) (σ : S2) (a1 : Int32) (a2 : Int32) (hI : IvC 0 τ σ) (p9000 : 0 ≤ a1.toInt) (p9001 : a1.toInt ≤ 11) (p9002 : 0 ≤ a2.toInt) (p9003 : a2.toInt ≤ 39)  : Ok (fun z => 0 ≤ z.toInt ∧ z.toInt ≤ 1) (fX6_hasRoom τ σ a1 a2) := by
  unfold fX6_hasRoom
  exact sX6_hasRoom_0 τ σ a1 a2 hI (by assumption) (by assumption) (by assumption) (by assumption)

theorem sX6_takesGreater_0 (τ : Nat) (σ : S2) (x1 : Int32) (x2 : Int32) (x3 : Int32) (hI : IvC 0 τ σ) (p9000 : 0 ≤ x1.toInt) (p9001 : x1.toInt ≤ 11) (p9002 : 0 ≤ x2.toInt) (p9003 : x2.toInt ≤ 39)  : Ok (fun z => IvC 0 τ z.2 ∧ 0 ≤ z.1.toInt ∧ z.1.toInt ≤ 1) (fX6_takesGreater_0 τ σ x1 x2 x3) := by
  have hFU : ((FU : Nat) : Int) = 100000 := rfl
  unfold fX6_takesGreater_0
  refine ok_ck (by omega) (by omega) ?_
  refine ok_ck (by omega) (by omega) ?_
  have := i32_rng (σ.1 (84 + (Int32.toNatClampNeg x1)) (Int32.toNatClampNeg x2))
  refine ok_nmI (fun v2 hv2 he1 => ?_)
  have := i32_rng v2
  have := i32_rng x3
  refine ok_lt (fun h2 => ?_) (fun h2 => ?_)
  · refine ok_ck (by omega) (by omega) ?_
    refine ok_ck (by omega) (by omega) ?_
    refine ok_nm (fun σ4 hs3 => ?_)
    have hI4 : IvC 0 τ σ4 := by rw [hs3]; exact IvC.wR1 hI (by have := i32_nat (i := x1) (by omega); omega) (i32_rng _).1 (i32_rng _).2
    have : (1 : Int32).toInt = 1 := by decide
    exact ok_some ⟨hI4, by show 0 ≤ (1 : Int32).toInt; omega, by show (1 : Int32).toInt ≤ 1; omega⟩
  · have : (0 : Int32).toInt = 0 := by decide
    exact ok_some ⟨hI, by show 0 ≤ (0 : Int32).toInt; omega, by show (0 : Int32).toInt ≤ 1; omega⟩

theorem sX6_takesGreater (τ : Nat) (σ : S2) (a1 : Int32) (a2 : Int32) (a3 : Int32) (hI : IvC 0 τ σ) (p9000 : 0 ≤ a1.toInt) (p9001 : a1.toInt ≤ 11) (p9002 : 0 ≤ a2.toInt) (p9003 : a2.toInt ≤ 39)  : Ok (fun z => IvC 0 τ z.2 ∧ 0 ≤ z.1.toInt ∧ z.1.toInt ≤ 1) (fX6_takesGreater τ σ a1 a2 a3) := by
  unfold fX6_takesGreater
  exact sX6_takesGreater_0 τ σ a1 a2 a3 hI (by assumption) (by assumption) (by assumption) (by assumption)

theorem sX6_receives_0 (τ : Nat) (σ : S2) (x1 : Int32) (x2 : Int32) (x3 : Int32) (hI : IvC 0 τ σ) (p9000 : 0 ≤ x1.toInt) (p9001 : x1.toInt ≤ 11) (p9002 : 0 ≤ x2.toInt) (p9003 : x2.toInt ≤ 39)  : Ok (fun z => IvC 0 τ z.2 ∧ 0 ≤ z.1.toInt ∧ z.1.toInt ≤ 1) (fX6_receives_0 τ σ x1 x2 x3) := by
  have hFU : ((FU : Nat) : Int) = 100000 := rfl
  unfold fX6_receives_0
  refine ok_bi (sX6_hasRoom τ σ x1 x2 hI (by omega) (by omega) (by omega) (by omega)) (fun r1 hr1 => ?_)
  obtain ⟨p2, p3⟩ := hr1
  have p2 : 0 ≤ r1.toInt := p2
  have p3 : r1.toInt ≤ 1 := p3
  have : (0 : Int32).toInt = 0 := by decide
  refine ok_eq (fun h4 => ?_) (fun h4 => ?_)
  · exact ok_some ⟨hI, by show 0 ≤ (0 : Int32).toInt; omega, by show (0 : Int32).toInt ≤ 1; omega⟩
  · have := i32_rng x3
    refine ok_bs (sX6_takesGreater τ σ x1 x2 x3 hI (by omega) (by omega) (by omega) (by omega)) (fun r3 σ4 hr5 => ?_)
    obtain ⟨p6, p7, p8⟩ := hr5
    have p6 : IvC 0 τ σ4 := p6
    have p7 : 0 ≤ r3.toInt := p7
    have p8 : r3.toInt ≤ 1 := p8
    refine ok_eq (fun h9 => ?_) (fun h9 => ?_)
    · exact ok_some ⟨p6, by show 0 ≤ (0 : Int32).toInt; omega, by show (0 : Int32).toInt ≤ 1; omega⟩
    · have : (1 : Int32).toInt = 1 := by decide
      exact ok_some ⟨p6, by show 0 ≤ (1 : Int32).toInt; omega, by show (1 : Int32).toInt ≤ 1; omega⟩

theorem sX6_receives (τ : Nat) (σ : S2) (a1 : Int32) (a2 : Int32) (a3 : Int32) (hI : IvC 0 τ σ) (p9000 : 0 ≤ a1.toInt) (p9001 : a1.toInt ≤ 11) (p9002 : 0 ≤ a2.toInt) (p9003 : a2.toInt ≤ 39)  : Ok (fun z => IvC 0 τ z.2 ∧ 0 ≤ z.1.toInt ∧ z.1.toInt ≤ 1) (fX6_receives τ σ a1 a2 a3) := by
  unfold fX6_receives
  exact sX6_receives_0 τ σ a1 a2 a3 hI (by assumption) (by assumption) (by assumption) (by assumption)

theorem sX6_reaches_0 (τ : Nat) (σ : S2) (x1 : Int32) (x2 : Int32) (hI : IvC 0 τ σ) (p9000 : 0 ≤ x1.toInt) (p9001 : x1.toInt ≤ 11) (p9002 : 0 ≤ x2.toInt) (p9003 : x2.toInt ≤ 39)  : Ok (fun z => IvC 0 τ z.2 ∧ 0 ≤ z.1.toInt ∧ z.1.toInt ≤ 1) (fX6_reaches_0 τ σ x1 x2) := by
  have hFU : ((FU : Nat) : Int) = 100000 := rfl
  unfold fX6_reaches_0
  refine ok_ck (by omega) (by omega) ?_
  have : 0 ≤ (σ.1 12 (Int32.toNatClampNeg x1)).toInt ∧ (σ.1 12 (Int32.toNatClampNeg x1)).toInt ≤ 1 := hI.1 12 (Int32.toNatClampNeg x1)
  refine ok_nmI (fun v1 hv1 he1 => ?_)
  have : (0 : Int32).toInt = 0 := by decide
  refine ok_eq (fun h2 => ?_) (fun h2 => ?_)
  · refine ok_ck (by omega) (by omega) ?_
    have : 0 ≤ (σ.1 8 (Int32.toNatClampNeg x1)).toInt ∧ (σ.1 8 (Int32.toNatClampNeg x1)).toInt ≤ 6 := hI.1 8 (Int32.toNatClampNeg x1)
    refine ok_nmI (fun v2 hv2 he3 => ?_)
    have : (4 : Int32).toInt = 4 := by decide
    refine ok_eq (fun h4 => ?_) (fun h4 => ?_)
    · refine ok_bs (sX6_isKeptFor τ σ x1 x2 hI (by omega) (by omega) (by omega) (by omega)) (fun r8 σ9 hr5 => ?_)
      obtain ⟨p6, p7, p8⟩ := hr5
      have p6 : IvC 0 τ σ9 := p6
      have p7 : 0 ≤ r8.toInt := p7
      have p8 : r8.toInt ≤ 1 := p8
      refine ok_zb (by omega) (by omega) ?_
      exact ok_some ⟨p6, by show 0 ≤ r8.toInt; omega, by show r8.toInt ≤ 1; omega⟩
    · refine ok_ck (by omega) (by omega) ?_
      have := i32_rng (σ.1 24 (Int32.toNatClampNeg x2))
      refine ok_nmI (fun v3 hv3 he9 => ?_)
      have := i32_rng v3
      refine ok_bs (sX6_receives τ σ x1 x2 v3 hI (by omega) (by omega) (by omega) (by omega)) (fun r4 σ5 hr10 => ?_)
      obtain ⟨p11, p12, p13⟩ := hr10
      have p11 : IvC 0 τ σ5 := p11
      have p12 : 0 ≤ r4.toInt := p12
      have p13 : r4.toInt ≤ 1 := p13
      refine ok_zb (by omega) (by omega) ?_
      exact ok_some ⟨p11, by show 0 ≤ r4.toInt; omega, by show r4.toInt ≤ 1; omega⟩
  · exact ok_some ⟨hI, by show 0 ≤ (0 : Int32).toInt; omega, by show (0 : Int32).toInt ≤ 1; omega⟩

theorem sX6_reaches (τ : Nat) (σ : S2) (a1 : Int32) (a2 : Int32) (hI : IvC 0 τ σ) (p9000 : 0 ≤ a1.toInt) (p9001 : a1.toInt ≤ 11) (p9002 : 0 ≤ a2.toInt) (p9003 : a2.toInt ≤ 39)  : Ok (fun z => IvC 0 τ z.2 ∧ 0 ≤ z.1.toInt ∧ z.1.toInt ≤ 1) (fX6_reaches τ σ a1 a2) := by
  unfold fX6_reaches
  exact sX6_reaches_0 τ σ a1 a2 hI (by assumption) (by assumption) (by assumption) (by assumption)

theorem sX6_spread_78 (τ : Nat) (b1 : Nat) (k45 : S2 → Int32 → Int32 → Int32 → Option (Int32 × S2)) (σ : S2) (x2 : Int32) (x3 : Int32) (x4 : Int32) (hI : IvC 0 τ σ) (p9000 : 0 ≤ x2.toInt) (p9001 : x2.toInt ≤ 39) (p9002 : 0 ≤ x4.toInt) (p9003 : x4.toInt ≤ 3) (hk45 : ∀ (y0 : S2) (y1 : Int32) (y2 : Int32) (y3 : Int32), IvC 0 τ y0 → 0 ≤ y1.toInt → y1.toInt ≤ 39 → 0 ≤ y3.toInt → y3.toInt ≤ 4 → x4.toInt + 1 ≤ y3.toInt → Ok (fun z => IvC 0 τ z.2) (k45 y0 y1 y2 y3)) : Ok (fun z => IvC 0 τ z.2) (fX6_spread_78 τ b1 k45 σ x2 x3 x4) := by
  have hFU : ((FU : Nat) : Int) = 100000 := rfl
  unfold fX6_spread_78
  have : (1 : Int32).toInt = 1 := by decide
  have : ((x4 + 1) : Int32).toInt = (x4 : Int32).toInt + (1 : Int32).toInt := i32_add (by omega) (by omega)
  refine ok_nmI (fun v1 hv1 he1 => ?_)
  have := i32_rng x3
  exact hk45 σ x2 x3 v1 hI (by omega) (by omega) (by omega) (by omega) (by omega)

theorem sX6_spread_45 (τ : Nat) (b1 : Nat) : ∀ (n : Nat) (σ : S2) (x2 : Int32) (x3 : Int32) (x4 : Int32), IvC 0 τ σ → 0 ≤ x2.toInt → x2.toInt ≤ 39 → 0 ≤ x4.toInt → x4.toInt ≤ 4 → 4 - x4.toInt < (n : Int) → Ok (fun z => IvC 0 τ z.2) (fX6_spread_45 τ b1 n σ x2 x3 x4) := by
  have hFU : ((FU : Nat) : Int) = 100000 := rfl
  intro n
  induction n with
  | zero => intro σ x2 x3 x4 hI p9000 p9001 p9002 p9003 hm; exfalso; omega
  | succ n ih =>
    intro σ x2 x3 x4 hI p9000 p9001 p9002 p9003 hm
    unfold fX6_spread_45
    have : 0 ≤ (σ.1 14 3).toInt ∧ (σ.1 14 3).toInt ≤ 4 := hI.1 14 3
    refine ok_le (fun h1 => ?_) (fun h1 => ?_)
    · have := i32_rng x3
      exact ok_some hI
    · refine ok_ck (by omega) (by omega) ?_
      have : 0 ≤ (σ.1 16 (Int32.toNatClampNeg x4)).toInt ∧ (σ.1 16 (Int32.toNatClampNeg x4)).toInt ≤ 11 := hI.1 16 (Int32.toNatClampNeg x4)
      refine ok_nmI (fun v2 hv2 he2 => ?_)
      refine ok_bs (sX6_reaches τ σ v2 x2 hI (by omega) (by omega) (by omega) (by omega)) (fun r3 σ4 hr3 => ?_)
      obtain ⟨p4, p5, p6⟩ := hr3
      have p4 : IvC 0 τ σ4 := p4
      have p5 : 0 ≤ r3.toInt := p5
      have p6 : r3.toInt ≤ 1 := p6
      have : (0 : Int32).toInt = 0 := by decide
      refine ok_eq (fun h7 => ?_) (fun h7 => ?_)
      · have := i32_rng x3
        exact sX6_spread_78 τ b1 (fX6_spread_45 τ b1 n) σ4 x2 x3 x4 p4 (by omega) (by omega) (by omega) (by omega) (fun y0 y1 y2 y3 q0 q1 q2 q3 q4 q5 => ih y0 y1 y2 y3 q0 q1 q2 q3 q4 (by omega))
      · have := i32_rng x3
        have : (1 : Int32).toInt = 1 := by decide
        have := i32_rng (x3 + 1)
        refine ok_nmI (fun v6 hv6 he8 => ?_)
        have := i32_rng v6
        exact sX6_spread_78 τ b1 (fX6_spread_45 τ b1 n) σ4 x2 v6 x4 p4 (by omega) (by omega) (by omega) (by omega) (fun y0 y1 y2 y3 q0 q1 q2 q3 q4 q5 => ih y0 y1 y2 y3 q0 q1 q2 q3 q4 (by omega))

theorem sX6_spread_0 (τ : Nat) (b1 : Nat) (σ : S2) (x2 : Int32) (hI : IvC 0 τ σ) (p9000 : 0 ≤ x2.toInt) (p9001 : x2.toInt ≤ 39)  : Ok (fun z => IvC 0 τ z.2) (fX6_spread_0 τ b1 σ x2) := by
  have hFU : ((FU : Nat) : Int) = 100000 := rfl
  unfold fX6_spread_0
  have := i32_rng (σ.1 18 8)
  have : (1 : Int32).toInt = 1 := by decide
  have := i32_rng ((σ.1 18 8) + 1)
  refine ok_nm (fun σ7 hs1 => ?_)
  have hI2 : IvC 0 τ σ7 := by rw [hs1]; exact IvC.wF hI (by decide) (by omega) (i32_rng _).1 (i32_rng _).2
  refine ok_ck (by omega) (by omega) ?_
  have := i32_rng (σ7.1 24 (Int32.toNatClampNeg x2))
  refine ok_nmI (fun v8 hv8 he3 => ?_)
  refine ok_ck (by omega) (by omega) ?_
  have := i32_rng v8
  have := i32_rng (v8 + 1)
  refine ok_nm (fun σ9 hs4 => ?_)
  have hI5 : IvC 0 τ σ9 := by rw [hs4]; exact IvC.wF hI2 (by decide) (by omega) (i32_rng _).1 (i32_rng _).2
  have : (σ9.1 18 8).toInt = (σ7.1 18 8).toInt := by rw [hs4]; rfl
  have := i32_rng (σ9.1 (182 + (6 * b1)) 1)
  refine ok_bi (sX4_placeOf τ σ9 x2 (σ9.1 (182 + (6 * b1)) 1) hI5 (by omega) (by omega)) (fun r10 hr6 => ?_)
  obtain ⟨p7, p8⟩ := hr6
  have p7 : 0 ≤ r10.toInt := p7
  have p8 : r10.toInt ≤ 999 := p8
  refine ok_bs (sX1_choose τ b1 σ9 r10 hI5 (by omega) (by omega)) (fun r12 σ13 hr9 => ?_)
  have hr9 : IvC 0 τ σ13 := hr9
  have : (0 : Int32).toInt = 0 := by decide
  exact sX6_spread_45 τ b1 FU σ13 x2 0 0 hr9 (by omega) (by omega) (by omega) (by omega) (by omega)

theorem sX6_spread (τ : Nat) (b1 : Nat) (σ : S2) (a2 : Int32) (hI : IvC 0 τ σ) (p9000 : 0 ≤ a2.toInt) (p9001 : a2.toInt ≤ 39)  : Ok (fun z => IvC 0 τ z.2) (fX6_spread τ b1 σ a2) := by
  unfold fX6_spread
  exact sX6_spread_0 τ b1 σ a2 hI (by assumption) (by assumption)

theorem sX6_handBack_76 (τ : Nat) (k15 : S2 → Int32 → Int32 → Int32 → Option (Unit × S2)) (σ : S2) (x1 : Int32) (x2 : Int32) (x3 : Int32) (hI : IvC 0 τ σ) (p9000 : 0 ≤ x1.toInt) (p9001 : x1.toInt ≤ 11) (p9002 : 0 ≤ x2.toInt) (p9003 : x2.toInt ≤ 11) (p9004 : 0 ≤ x3.toInt) (p9005 : x3.toInt ≤ 39) (hk15 : ∀ (y0 : S2) (y1 : Int32) (y2 : Int32) (y3 : Int32), IvC 0 τ y0 → 0 ≤ y1.toInt → y1.toInt ≤ 11 → 0 ≤ y2.toInt → y2.toInt ≤ 11 → 0 ≤ y3.toInt → y3.toInt ≤ 40 → x3.toInt + 1 ≤ y3.toInt → x2.toInt ≤ y2.toInt → Ok (fun z => IvC 0 τ z.2) (k15 y0 y1 y2 y3)) : Ok (fun z => IvC 0 τ z.2) (fX6_handBack_76 τ k15 σ x1 x2 x3) := by
  have hFU : ((FU : Nat) : Int) = 100000 := rfl
  unfold fX6_handBack_76
  have : (1 : Int32).toInt = 1 := by decide
  have : ((x3 + 1) : Int32).toInt = (x3 : Int32).toInt + (1 : Int32).toInt := i32_add (by omega) (by omega)
  refine ok_nmI (fun v1 hv1 he1 => ?_)
  exact hk15 σ x1 x2 v1 hI (by omega) (by omega) (by omega) (by omega) (by omega) (by omega) (by omega) (by omega)

theorem sX6_handBack_15 (τ : Nat) (k2 : S2 → Int32 → Int32 → Option (Unit × S2)) : ∀ (n : Nat) (σ : S2) (x1 : Int32) (x2 : Int32) (x3 : Int32), IvC 0 τ σ → 0 ≤ x1.toInt → x1.toInt ≤ 11 → 0 ≤ x2.toInt → x2.toInt ≤ 11 → 0 ≤ x3.toInt → x3.toInt ≤ 40 → 40 - x3.toInt < (n : Int) → (∀ (y0 : S2) (y1 : Int32) (y2 : Int32), IvC 0 τ y0 → 0 ≤ y1.toInt → y1.toInt ≤ 11 → 0 ≤ y2.toInt → y2.toInt ≤ 12 → x2.toInt + 1 ≤ y2.toInt → Ok (fun z => IvC 0 τ z.2) (k2 y0 y1 y2)) → Ok (fun z => IvC 0 τ z.2) (fX6_handBack_15 τ k2 n σ x1 x2 x3) := by
  have hFU : ((FU : Nat) : Int) = 100000 := rfl
  intro n
  induction n with
  | zero => intro σ x1 x2 x3 hI p9000 p9001 p9002 p9003 p9004 p9005 hm hk2; exfalso; omega
  | succ n ih =>
    intro σ x1 x2 x3 hI p9000 p9001 p9002 p9003 p9004 p9005 hm hk2
    unfold fX6_handBack_15
    have : 0 ≤ (σ.1 3 3).toInt ∧ (σ.1 3 3).toInt ≤ 40 := hI.1 3 3
    refine ok_le (fun h1 => ?_) (fun h1 => ?_)
    · have : (1 : Int32).toInt = 1 := by decide
      have : ((x2 + 1) : Int32).toInt = (x2 : Int32).toInt + (1 : Int32).toInt := i32_add (by omega) (by omega)
      refine ok_nmI (fun v2 hv2 he2 => ?_)
      exact hk2 σ x1 v2 hI (by omega) (by omega) (by omega) (by omega) (by omega)
    · refine ok_ck (by omega) (by omega) ?_
      refine ok_ck (by omega) (by omega) ?_
      have := i32_rng (σ.1 (96 + (Int32.toNatClampNeg x2)) (Int32.toNatClampNeg x3))
      refine ok_nmI (fun v4 hv4 he3 => ?_)
      have := i32_rng v4
      have : (0 : Int32).toInt = 0 := by decide
      refine ok_eq (fun h4 => ?_) (fun h4 => ?_)
      · exact sX6_handBack_76 τ (fX6_handBack_15 τ k2 n) σ x1 x2 x3 hI (by omega) (by omega) (by omega) (by omega) (by omega) (by omega) (fun y0 y1 y2 y3 q0 q1 q2 q3 q4 q5 q6 q7 q8 => ih y0 y1 y2 y3 q0 q1 q2 q3 q4 q5 q6 (by omega) (fun z0 z1 z2 w0 w1 w2 w3 w4 w5 => hk2 z0 z1 z2 w0 w1 w2 w3 w4 (by omega)))
      · refine ok_ck (by omega) (by omega) ?_
        refine ok_ck (by omega) (by omega) ?_
        have : 0 ≤ (σ.1 (108 + (Int32.toNatClampNeg x2)) (Int32.toNatClampNeg x3)).toInt ∧ (σ.1 (108 + (Int32.toNatClampNeg x2)) (Int32.toNatClampNeg x3)).toInt ≤ 11 := hI.1.r3 _ _ (by have := i32_nat (i := x2) (by omega); omega)
        refine ok_nmI (fun v6 hv6 he5 => ?_)
        refine ok_eq (fun h6 => ?_) (fun h6 => ?_)
        · refine ok_ck (by omega) (by omega) ?_
          refine ok_ck (by omega) (by omega) ?_
          refine ok_nmI (fun v8 hv8 he7 => ?_)
          have := i32_rng v8
          refine ok_bs (sX6_takesGreater τ σ x1 x3 v8 hI (by omega) (by omega) (by omega) (by omega)) (fun r9 σ10 hr8 => ?_)
          obtain ⟨p9, p10, p11⟩ := hr8
          have p9 : IvC 0 τ σ10 := p9
          have p10 : 0 ≤ r9.toInt := p10
          have p11 : r9.toInt ≤ 1 := p11
          refine ok_ck (by omega) (by omega) ?_
          refine ok_ck (by omega) (by omega) ?_
          refine ok_nm (fun σ13 hs12 => ?_)
          have hI13 : IvC 0 τ σ13 := by rw [hs12]; exact IvC.wR2 p9 (by have := i32_nat (i := x2) (by omega); omega) (i32_rng _).1 (i32_rng _).2
          exact sX6_handBack_76 τ (fX6_handBack_15 τ k2 n) σ13 x1 x2 x3 hI13 (by omega) (by omega) (by omega) (by omega) (by omega) (by omega) (fun y0 y1 y2 y3 q0 q1 q2 q3 q4 q5 q6 q7 q8 => ih y0 y1 y2 y3 q0 q1 q2 q3 q4 q5 q6 (by omega) (fun z0 z1 z2 w0 w1 w2 w3 w4 w5 => hk2 z0 z1 z2 w0 w1 w2 w3 w4 (by omega)))
        · exact sX6_handBack_76 τ (fX6_handBack_15 τ k2 n) σ x1 x2 x3 hI (by omega) (by omega) (by omega) (by omega) (by omega) (by omega) (fun y0 y1 y2 y3 q0 q1 q2 q3 q4 q5 q6 q7 q8 => ih y0 y1 y2 y3 q0 q1 q2 q3 q4 q5 q6 (by omega) (fun z0 z1 z2 w0 w1 w2 w3 w4 w5 => hk2 z0 z1 z2 w0 w1 w2 w3 w4 (by omega)))

theorem sX6_handBack_2 (τ : Nat) : ∀ (n : Nat) (σ : S2) (x1 : Int32) (x2 : Int32), IvC 0 τ σ → 0 ≤ x1.toInt → x1.toInt ≤ 11 → 0 ≤ x2.toInt → x2.toInt ≤ 12 → 12 - x2.toInt < (n : Int) → Ok (fun z => IvC 0 τ z.2) (fX6_handBack_2 τ n σ x1 x2) := by
  have hFU : ((FU : Nat) : Int) = 100000 := rfl
  intro n
  induction n with
  | zero => intro σ x1 x2 hI p9000 p9001 p9002 p9003 hm; exfalso; omega
  | succ n ih =>
    intro σ x1 x2 hI p9000 p9001 p9002 p9003 hm
    unfold fX6_handBack_2
    have : 0 ≤ (σ.1 7 5).toInt ∧ (σ.1 7 5).toInt ≤ 12 := hI.1 7 5
    refine ok_le (fun h1 => ?_) (fun h1 => ?_)
    · exact ok_some hI
    · have : (0 : Int32).toInt = 0 := by decide
      exact sX6_handBack_15 τ (fX6_handBack_2 τ n) FU σ x1 x2 0 hI (by omega) (by omega) (by omega) (by omega) (by omega) (by omega) (by omega) (fun y0 y1 y2 q0 q1 q2 q3 q4 q5 => ih y0 y1 y2 q0 q1 q2 q3 q4 (by omega))

theorem sX6_handBack_0 (τ : Nat) (σ : S2) (x1 : Int32) (hI : IvC 0 τ σ) (p9000 : 0 ≤ x1.toInt) (p9001 : x1.toInt ≤ 11)  : Ok (fun z => IvC 0 τ z.2) (fX6_handBack_0 τ σ x1) := by
  have hFU : ((FU : Nat) : Int) = 100000 := rfl
  unfold fX6_handBack_0
  have : (0 : Int32).toInt = 0 := by decide
  exact sX6_handBack_2 τ FU σ x1 0 hI (by omega) (by omega) (by omega) (by omega) (by omega)

theorem sX6_handBack (τ : Nat) (σ : S2) (a1 : Int32) (hI : IvC 0 τ σ) (p9000 : 0 ≤ a1.toInt) (p9001 : a1.toInt ≤ 11)  : Ok (fun z => IvC 0 τ z.2) (fX6_handBack τ σ a1) := by
  unfold fX6_handBack
  exact sX6_handBack_0 τ σ a1 hI (by assumption) (by assumption)

theorem sJ7_fill_53178_5 (τ : Nat) (c0 : Nat) (n0 : Nat) : ∀ (n : Nat) (σ : S2) (x1 : Int32) (x2 : Int32) (x3 : Int32), IvC 0 τ σ → 0 ≤ x1.toInt → x1.toInt ≤ 0 → 0 ≤ x2.toInt → x2.toInt ≤ 1000 → 0 ≤ x3.toInt → x3.toInt ≤ 1000 → FlC 0 τ c0 x1 → (n0 : Int) ≤ 1000 → x3.toInt ≤ (n0 : Int) → 1000 - x2.toInt < (n : Int) → Ok (fun z => IvC 0 τ z.2) (fJ7_fill_53178_5 τ c0 n0 n σ x1 x2 x3) := by
  have hFU : ((FU : Nat) : Int) = 100000 := rfl
  intro n
  induction n with
  | zero => intro σ x1 x2 x3 hI p9000 p9001 p9002 p9003 p9004 p9005 p9006 p9007 p9008 hm; exfalso; omega
  | succ n ih =>
    intro σ x1 x2 x3 hI p9000 p9001 p9002 p9003 p9004 p9005 p9006 p9007 p9008 hm
    unfold fJ7_fill_53178_5
    refine ok_le (fun h1 => ?_) (fun h1 => ?_)
    · exact ok_some hI
    · refine ok_ck (by omega) (by omega) ?_
      refine ok_nm (fun σ1 hs2 => ?_)
      have hI3 : IvC 0 τ σ1 := by rw [hs2]; first | exact (show FlC 0 τ c0 x1 by assumption) _ _ hI | exact (show FaC 0 τ c0 by assumption) _ _ _ hI
      have : (1 : Int32).toInt = 1 := by decide
      have : ((x2 + 1) : Int32).toInt = (x2 : Int32).toInt + (1 : Int32).toInt := i32_add (by omega) (by omega)
      refine ok_nmI (fun v2 hv2 he4 => ?_)
      exact ih σ1 x1 v2 x3 hI3 (by omega) (by omega) (by omega) (by omega) (by omega) (by omega) (by first | assumption | exact KeM.rf _) (by omega) (by omega) (by omega)

theorem sJ7_fill_53178_0 (τ : Nat) (c0 : Nat) (n0 : Nat) (σ : S2) (x1 : Int32) (hI : IvC 0 τ σ) (p9000 : 0 ≤ x1.toInt) (p9001 : x1.toInt ≤ 0) (p9002 : FlC 0 τ c0 x1) (p9003 : (n0 : Int) ≤ 1000)  : Ok (fun z => IvC 0 τ z.2) (fJ7_fill_53178_0 τ c0 n0 σ x1) := by
  have hFU : ((FU : Nat) : Int) = 100000 := rfl
  unfold fJ7_fill_53178_0
  have : ((Int32.ofNat n0) : Int32).toInt = (n0 : Int) := i32_ofNat (by omega)
  refine ok_nmI (fun v3 hv3 he1 => ?_)
  have : (0 : Int32).toInt = 0 := by decide
  exact sJ7_fill_53178_5 τ c0 n0 FU σ x1 0 v3 hI (by omega) (by omega) (by omega) (by omega) (by omega) (by omega) (by first | assumption | exact KeM.rf _) (by omega) (by omega) (by omega)

theorem sJ7_fill_53178 (τ : Nat) (c0 : Nat) (n0 : Nat) (σ : S2) (a1 : Int32) (hI : IvC 0 τ σ) (p9000 : 0 ≤ a1.toInt) (p9001 : a1.toInt ≤ 0) (p9002 : FlC 0 τ c0 a1) (p9003 : (n0 : Int) ≤ 1000)  : Ok (fun z => IvC 0 τ z.2) (fJ7_fill_53178 τ c0 n0 σ a1) := by
  unfold fJ7_fill_53178
  exact sJ7_fill_53178_0 τ c0 n0 σ a1 hI (by assumption) (by assumption) (by assumption) (by assumption)

theorem sX6_empty_0 (τ : Nat) (σ : S2) (x1 : Int32) (hI : IvC 0 τ σ) (p9000 : 0 ≤ x1.toInt) (p9001 : x1.toInt ≤ 11)  : Ok (fun z => IvC 0 τ z.2) (fX6_empty_0 τ σ x1) := by
  have hFU : ((FU : Nat) : Int) = 100000 := rfl
  unfold fX6_empty_0
  refine ok_ck (by omega) (by omega) ?_
  have : (0 : Int32).toInt = 0 := by decide
  refine ok_bs (sJ7_fill_53178 τ (84 + (Int32.toNatClampNeg x1)) 40 σ 0 hI (by omega) (by omega) (FlC.r1 (by have := i32_nat (i := x1) (by omega); omega)) (by omega)) (fun r2 σ3 hr1 => ?_)
  have hr1 : IvC 0 τ σ3 := hr1
  refine ok_ck (by omega) (by omega) ?_
  refine ok_bs (sJ7_fill_53178 τ (96 + (Int32.toNatClampNeg x1)) 40 σ3 0 hr1 (by omega) (by omega) (FlC.r2 (by have := i32_nat (i := x1) (by omega); omega)) (by omega)) (fun r6 σ7 hr3 => ?_)
  have hr3 : IvC 0 τ σ7 := hr3
  exact ok_some hr3

theorem sX6_empty (τ : Nat) (σ : S2) (a1 : Int32) (hI : IvC 0 τ σ) (p9000 : 0 ≤ a1.toInt) (p9001 : a1.toInt ≤ 11)  : Ok (fun z => IvC 0 τ z.2) (fX6_empty τ σ a1) := by
  unfold fX6_empty
  exact sX6_empty_0 τ σ a1 hI (by assumption) (by assumption)

theorem sX6_greatestFor_75 (τ : Nat) (b1 : Nat) (k25 : S2 → Int32 → Int32 → Int32 → Option (Int32 × S2)) (σ : S2) (x2 : Int32) (x3 : Int32) (x4 : Int32) (hI : IvC 0 τ σ) (p9000 : 0 ≤ x2.toInt) (p9001 : x2.toInt ≤ 39) (p9002 : 0 ≤ x3.toInt) (p9003 : 0 ≤ x4.toInt) (p9004 : x4.toInt ≤ 3) (hk25 : ∀ (y0 : S2) (y1 : Int32) (y2 : Int32) (y3 : Int32), IvC 0 τ y0 → 0 ≤ y1.toInt → y1.toInt ≤ 39 → 0 ≤ y2.toInt → 0 ≤ y3.toInt → y3.toInt ≤ 4 → x4.toInt + 1 ≤ y3.toInt → Ok (fun z => IvC 0 τ z.2 ∧ 0 ≤ z.1.toInt) (k25 y0 y1 y2 y3)) : Ok (fun z => IvC 0 τ z.2 ∧ 0 ≤ z.1.toInt) (fX6_greatestFor_75 τ b1 k25 σ x2 x3 x4) := by
  have hFU : ((FU : Nat) : Int) = 100000 := rfl
  unfold fX6_greatestFor_75
  have : (1 : Int32).toInt = 1 := by decide
  have : ((x4 + 1) : Int32).toInt = (x4 : Int32).toInt + (1 : Int32).toInt := i32_add (by omega) (by omega)
  refine ok_nmI (fun v1 hv1 he1 => ?_)
  have := i32_rng x3
  exact hk25 σ x2 x3 v1 hI (by omega) (by omega) (by omega) (by omega) (by omega) (by omega)

theorem sX6_greatestFor_25 (τ : Nat) (b1 : Nat) : ∀ (n : Nat) (σ : S2) (x2 : Int32) (x3 : Int32) (x4 : Int32), IvC 0 τ σ → 0 ≤ x2.toInt → x2.toInt ≤ 39 → 0 ≤ x3.toInt → 0 ≤ x4.toInt → x4.toInt ≤ 4 → 4 - x4.toInt < (n : Int) → Ok (fun z => IvC 0 τ z.2 ∧ 0 ≤ z.1.toInt) (fX6_greatestFor_25 τ b1 n σ x2 x3 x4) := by
  have hFU : ((FU : Nat) : Int) = 100000 := rfl
  intro n
  induction n with
  | zero => intro σ x2 x3 x4 hI p9000 p9001 p9002 p9003 p9004 hm; exfalso; omega
  | succ n ih =>
    intro σ x2 x3 x4 hI p9000 p9001 p9002 p9003 p9004 hm
    unfold fX6_greatestFor_25
    have : 0 ≤ (σ.1 14 3).toInt ∧ (σ.1 14 3).toInt ≤ 4 := hI.1 14 3
    refine ok_le (fun h1 => ?_) (fun h1 => ?_)
    · have := i32_rng x3
      exact ok_some ⟨hI, by show 0 ≤ x3.toInt; omega⟩
    · refine ok_ck (by omega) (by omega) ?_
      have : 0 ≤ (σ.1 16 (Int32.toNatClampNeg x4)).toInt ∧ (σ.1 16 (Int32.toNatClampNeg x4)).toInt ≤ 11 := hI.1 16 (Int32.toNatClampNeg x4)
      refine ok_nmI (fun v2 hv2 he2 => ?_)
      refine ok_bi (sX2_isUp τ σ v2 hI (by omega) (by omega)) (fun r3 hr3 => ?_)
      obtain ⟨p4, p5⟩ := hr3
      have p4 : 0 ≤ r3.toInt := p4
      have p5 : r3.toInt ≤ 1 := p5
      have : (0 : Int32).toInt = 0 := by decide
      refine ok_eq (fun h6 => ?_) (fun h6 => ?_)
      · have := i32_rng x3
        exact sX6_greatestFor_75 τ b1 (fX6_greatestFor_25 τ b1 n) σ x2 x3 x4 hI (by omega) (by omega) (by omega) (by omega) (by omega) (fun y0 y1 y2 y3 q0 q1 q2 q3 q4 q5 q6 => ih y0 y1 y2 y3 q0 q1 q2 q3 q4 q5 (by omega))
      · refine ok_ck (by omega) (by omega) ?_
        refine ok_ck (by omega) (by omega) ?_
        have := i32_rng (σ.1 (84 + (Int32.toNatClampNeg v2)) (Int32.toNatClampNeg x2))
        refine ok_nmI (fun v6 hv6 he7 => ?_)
        have := i32_rng x3
        have := i32_rng v6
        have := i32_iflt x3 v6 v6 x3
        refine ok_nmI (fun v7 hv7 he8 => ?_)
        have := i32_rng v7
        exact sX6_greatestFor_75 τ b1 (fX6_greatestFor_25 τ b1 n) σ x2 v7 x4 hI (by omega) (by omega) (by omega) (by omega) (by omega) (fun y0 y1 y2 y3 q0 q1 q2 q3 q4 q5 q6 => ih y0 y1 y2 y3 q0 q1 q2 q3 q4 q5 (by omega))

theorem sX6_greatestFor_0 (τ : Nat) (b1 : Nat) (σ : S2) (x2 : Int32) (hI : IvC 0 τ σ) (p9000 : 0 ≤ x2.toInt) (p9001 : x2.toInt ≤ 39)  : Ok (fun z => IvC 0 τ z.2 ∧ 0 ≤ z.1.toInt) (fX6_greatestFor_0 τ b1 σ x2) := by
  have hFU : ((FU : Nat) : Int) = 100000 := rfl
  unfold fX6_greatestFor_0
  have := i32_rng (σ.1 (182 + (6 * b1)) 1)
  refine ok_bi (sX4_placeOf τ σ x2 (σ.1 (182 + (6 * b1)) 1) hI (by omega) (by omega)) (fun r8 hr1 => ?_)
  obtain ⟨p2, p3⟩ := hr1
  have p2 : 0 ≤ r8.toInt := p2
  have p3 : r8.toInt ≤ 999 := p3
  refine ok_bs (sX1_choose τ b1 σ r8 hI (by omega) (by omega)) (fun r10 σ11 hr4 => ?_)
  have hr4 : IvC 0 τ σ11 := hr4
  have : (0 : Int32).toInt = 0 := by decide
  exact sX6_greatestFor_25 τ b1 FU σ11 x2 0 0 hr4 (by omega) (by omega) (by omega) (by omega) (by omega) (by omega)

theorem sX6_greatestFor (τ : Nat) (b1 : Nat) (σ : S2) (a2 : Int32) (hI : IvC 0 τ σ) (p9000 : 0 ≤ a2.toInt) (p9001 : a2.toInt ≤ 39)  : Ok (fun z => IvC 0 τ z.2 ∧ 0 ≤ z.1.toInt) (fX6_greatestFor τ b1 σ a2) := by
  unfold fX6_greatestFor
  exact sX6_greatestFor_0 τ b1 σ a2 hI (by assumption) (by assumption)

theorem sX6_movePiece_22 (τ : Nat) (σ : S2) (x1 : Int32) (x2 : Int32) (hI : IvC 0 τ σ) (p9000 : 0 ≤ x1.toInt) (p9001 : x1.toInt ≤ 39) (p9002 : 0 ≤ x2.toInt) (p9003 : x2.toInt ≤ 11)  : Ok (fun z => IvC 0 τ z.2 ∧ z.1.toInt ≤ 3) (fX6_movePiece_22 τ σ x1 x2) := by
  have hFU : ((FU : Nat) : Int) = 100000 := rfl
  unfold fX6_movePiece_22
  refine ok_ck (by omega) (by omega) ?_
  refine ok_ck (by omega) (by omega) ?_
  have : (0 : Int32).toInt = 0 := by decide
  refine ok_nm (fun σ2 hs1 => ?_)
  have hI2 : IvC 0 τ σ2 := by rw [hs1]; exact IvC.wR4 hI (by have := i32_nat (i := x2) (by omega); omega) (i32_rng _).1 (i32_rng _).2
  exact ok_some ⟨hI2, by show (0 : Int32).toInt ≤ 3; omega⟩

theorem sX6_movePiece_54 (τ : Nat) (σ : S2) (x1 : Int32) (x2 : Int32) (x3 : Int32) (hI : IvC 0 τ σ) (p9000 : 0 ≤ x1.toInt) (p9001 : x1.toInt ≤ 39) (p9002 : 0 ≤ x2.toInt) (p9003 : x2.toInt ≤ 11) (p9004 : 0 ≤ x3.toInt) (p9005 : x3.toInt ≤ 11)  : Ok (fun z => IvC 0 τ z.2 ∧ z.1.toInt ≤ 3) (fX6_movePiece_54 τ σ x1 x2 x3) := by
  have hFU : ((FU : Nat) : Int) = 100000 := rfl
  unfold fX6_movePiece_54
  refine ok_ck (by omega) (by omega) ?_
  refine ok_ck (by omega) (by omega) ?_
  refine ok_nm (fun σ4 hs1 => ?_)
  have hI2 : IvC 0 τ σ4 := by rw [hs1]; exact IvC.wR5 hI (by have := i32_nat (i := x2) (by omega); omega) (i32_rng _).1 (i32_rng _).2
  refine ok_ck (by omega) (by omega) ?_
  refine ok_ck (by omega) (by omega) ?_
  have := i32_rng (σ4.1 (120 + (Int32.toNatClampNeg x2)) (Int32.toNatClampNeg x1))
  refine ok_nmI (fun v6 hv6 he3 => ?_)
  refine ok_ck (by omega) (by omega) ?_
  have := i32_rng v6
  have : (1 : Int32).toInt = 1 := by decide
  have := i32_rng (v6 + 1)
  refine ok_nm (fun σ7 hs4 => ?_)
  have hI5 : IvC 0 τ σ7 := by rw [hs4]; exact IvC.wR4 hI2 (by have := i32_nat (i := x2) (by omega); omega) (i32_rng _).1 (i32_rng _).2
  refine ok_ck (by omega) (by omega) ?_
  refine ok_ck (by omega) (by omega) ?_
  have := i32_rng (σ7.1 (120 + (Int32.toNatClampNeg x2)) (Int32.toNatClampNeg x1))
  refine ok_nmI (fun v9 hv9 he6 => ?_)
  have : (3 : Int32).toInt = 3 := by decide
  have := i32_rng v9
  refine ok_le (fun h7 => ?_) (fun h7 => ?_)
  · refine ok_ck (by omega) (by omega) ?_
    refine ok_ck (by omega) (by omega) ?_
    have := i32_rng (σ7.1 (84 + (Int32.toNatClampNeg x2)) (Int32.toNatClampNeg x1))
    refine ok_nmI (fun v11 hv11 he8 => ?_)
    have := i32_rng v11
    refine ok_bs (sX6_takesGreater τ σ7 x3 x1 v11 hI5 (by omega) (by omega) (by omega) (by omega)) (fun r12 σ13 hr9 => ?_)
    obtain ⟨p10, p11, p12⟩ := hr9
    have p10 : IvC 0 τ σ13 := p10
    have p11 : 0 ≤ r12.toInt := p11
    have p12 : r12.toInt ≤ 1 := p12
    refine ok_ck (by omega) (by omega) ?_
    refine ok_ck (by omega) (by omega) ?_
    have : (0 : Int32).toInt = 0 := by decide
    refine ok_nm (fun σ16 hs13 => ?_)
    have hI14 : IvC 0 τ σ16 := by rw [hs13]; exact IvC.wR1 p10 (by have := i32_nat (i := x2) (by omega); omega) (i32_rng _).1 (i32_rng _).2
    refine ok_ck (by omega) (by omega) ?_
    refine ok_ck (by omega) (by omega) ?_
    refine ok_nm (fun σ18 hs15 => ?_)
    have hI16 : IvC 0 τ σ18 := by rw [hs15]; exact IvC.wR4 hI14 (by have := i32_nat (i := x2) (by omega); omega) (i32_rng _).1 (i32_rng _).2
    exact ok_some ⟨hI16, by show (3 : Int32).toInt ≤ 3; omega⟩
  · refine ok_ck (by omega) (by omega) ?_
    refine ok_ck (by omega) (by omega) ?_
    refine ok_nmI (fun v20 hv20 he17 => ?_)
    have := i32_rng v20
    exact ok_some ⟨hI5, by show v20.toInt ≤ 3; omega⟩

theorem sX6_movePiece_0 (τ : Nat) (σ : S2) (x1 : Int32) (x2 : Int32) (x3 : Int32) (hI : IvC 0 τ σ) (p9000 : 0 ≤ x1.toInt) (p9001 : x1.toInt ≤ 39) (p9002 : 0 ≤ x2.toInt) (p9003 : x2.toInt ≤ 11) (p9004 : 0 ≤ x3.toInt) (p9005 : x3.toInt ≤ 11)  : Ok (fun z => IvC 0 τ z.2 ∧ z.1.toInt ≤ 3) (fX6_movePiece_0 τ σ x1 x2 x3) := by
  have hFU : ((FU : Nat) : Int) = 100000 := rfl
  unfold fX6_movePiece_0
  refine ok_bi (sX2_isUp τ σ x2 hI (by omega) (by omega)) (fun r21 hr1 => ?_)
  obtain ⟨p2, p3⟩ := hr1
  have p2 : 0 ≤ r21.toInt := p2
  have p3 : r21.toInt ≤ 1 := p3
  have : (0 : Int32).toInt = 0 := by decide
  refine ok_eq (fun h4 => ?_) (fun h4 => ?_)
  · exact sX6_movePiece_22 τ σ x1 x2 hI (by omega) (by omega) (by omega) (by omega)
  · refine ok_bi (sX2_isUp τ σ x3 hI (by omega) (by omega)) (fun r23 hr5 => ?_)
    obtain ⟨p6, p7⟩ := hr5
    have p6 : 0 ≤ r23.toInt := p6
    have p7 : r23.toInt ≤ 1 := p7
    refine ok_eq (fun h8 => ?_) (fun h8 => ?_)
    · exact sX6_movePiece_22 τ σ x1 x2 hI (by omega) (by omega) (by omega) (by omega)
    · refine ok_ck (by omega) (by omega) ?_
      refine ok_ck (by omega) (by omega) ?_
      have := i32_rng (σ.1 (132 + (Int32.toNatClampNeg x2)) (Int32.toNatClampNeg x1))
      refine ok_nmI (fun v26 hv26 he9 => ?_)
      have := i32_rng v26
      refine ok_eq (fun h10 => ?_) (fun h10 => ?_)
      · exact sX6_movePiece_54 τ σ x1 x2 x3 hI (by omega) (by omega) (by omega) (by omega) (by omega) (by omega)
      · refine ok_ck (by omega) (by omega) ?_
        refine ok_ck (by omega) (by omega) ?_
        refine ok_nm (fun σ28 hs11 => ?_)
        have hI12 : IvC 0 τ σ28 := by rw [hs11]; exact IvC.wR4 hI (by have := i32_nat (i := x2) (by omega); omega) (i32_rng _).1 (i32_rng _).2
        exact sX6_movePiece_54 τ σ28 x1 x2 x3 hI12 (by omega) (by omega) (by omega) (by omega) (by omega) (by omega)

theorem sX6_movePiece (τ : Nat) (σ : S2) (a1 : Int32) (a2 : Int32) (a3 : Int32) (hI : IvC 0 τ σ) (p9000 : 0 ≤ a1.toInt) (p9001 : a1.toInt ≤ 39) (p9002 : 0 ≤ a2.toInt) (p9003 : a2.toInt ≤ 11) (p9004 : 0 ≤ a3.toInt) (p9005 : a3.toInt ≤ 11)  : Ok (fun z => IvC 0 τ z.2 ∧ z.1.toInt ≤ 3) (fX6_movePiece τ σ a1 a2 a3) := by
  unfold fX6_movePiece
  exact sX6_movePiece_0 τ σ a1 a2 a3 hI (by assumption) (by assumption) (by assumption) (by assumption) (by assumption) (by assumption)

theorem sX6_greatestAnywhere_40 (τ : Nat) (k4 : S2 → Int32 → Int32 → Int32 → Option Int32) (σ : S2) (x1 : Int32) (x2 : Int32) (x3 : Int32) (hI : IvC 0 τ σ) (p9000 : 0 ≤ x1.toInt) (p9001 : x1.toInt ≤ 39) (p9002 : 0 ≤ x2.toInt) (p9003 : 0 ≤ x3.toInt) (p9004 : x3.toInt ≤ 11) (hk4 : ∀ (y0 : S2) (y1 : Int32) (y2 : Int32) (y3 : Int32), IvC 0 τ y0 → 0 ≤ y1.toInt → y1.toInt ≤ 39 → 0 ≤ y2.toInt → 0 ≤ y3.toInt → y3.toInt ≤ 12 → x3.toInt + 1 ≤ y3.toInt → Ok (fun z => 0 ≤ z.toInt) (k4 y0 y1 y2 y3)) : Ok (fun z => 0 ≤ z.toInt) (fX6_greatestAnywhere_40 τ k4 σ x1 x2 x3) := by
  have hFU : ((FU : Nat) : Int) = 100000 := rfl
  unfold fX6_greatestAnywhere_40
  have : (1 : Int32).toInt = 1 := by decide
  have : ((x3 + 1) : Int32).toInt = (x3 : Int32).toInt + (1 : Int32).toInt := i32_add (by omega) (by omega)
  refine ok_nmI (fun v1 hv1 he1 => ?_)
  have := i32_rng x2
  exact hk4 σ x1 x2 v1 hI (by omega) (by omega) (by omega) (by omega) (by omega) (by omega)

theorem sX6_greatestAnywhere_4 (τ : Nat) : ∀ (n : Nat) (σ : S2) (x1 : Int32) (x2 : Int32) (x3 : Int32), IvC 0 τ σ → 0 ≤ x1.toInt → x1.toInt ≤ 39 → 0 ≤ x2.toInt → 0 ≤ x3.toInt → x3.toInt ≤ 12 → 12 - x3.toInt < (n : Int) → Ok (fun z => 0 ≤ z.toInt) (fX6_greatestAnywhere_4 τ n σ x1 x2 x3) := by
  have hFU : ((FU : Nat) : Int) = 100000 := rfl
  intro n
  induction n with
  | zero => intro σ x1 x2 x3 hI p9000 p9001 p9002 p9003 p9004 hm; exfalso; omega
  | succ n ih =>
    intro σ x1 x2 x3 hI p9000 p9001 p9002 p9003 p9004 hm
    unfold fX6_greatestAnywhere_4
    have : 0 ≤ (σ.1 7 5).toInt ∧ (σ.1 7 5).toInt ≤ 12 := hI.1 7 5
    refine ok_le (fun h1 => ?_) (fun h1 => ?_)
    · have := i32_rng x2
      exact ok_some (by show 0 ≤ x2.toInt; omega)
    · refine ok_ck (by omega) (by omega) ?_
      have : 0 ≤ (σ.1 12 (Int32.toNatClampNeg x3)).toInt ∧ (σ.1 12 (Int32.toNatClampNeg x3)).toInt ≤ 1 := hI.1 12 (Int32.toNatClampNeg x3)
      refine ok_nmI (fun v2 hv2 he2 => ?_)
      have : (0 : Int32).toInt = 0 := by decide
      refine ok_eq (fun h3 => ?_) (fun h3 => ?_)
      · refine ok_ck (by omega) (by omega) ?_
        refine ok_ck (by omega) (by omega) ?_
        have := i32_rng (σ.1 (84 + (Int32.toNatClampNeg x3)) (Int32.toNatClampNeg x1))
        refine ok_nmI (fun v4 hv4 he4 => ?_)
        have := i32_rng x2
        have := i32_rng v4
        have := i32_iflt x2 v4 v4 x2
        refine ok_nmI (fun v5 hv5 he5 => ?_)
        have := i32_rng v5
        exact sX6_greatestAnywhere_40 τ (fX6_greatestAnywhere_4 τ n) σ x1 v5 x3 hI (by omega) (by omega) (by omega) (by omega) (by omega) (fun y0 y1 y2 y3 q0 q1 q2 q3 q4 q5 q6 => ih y0 y1 y2 y3 q0 q1 q2 q3 q4 q5 (by omega))
      · have := i32_rng x2
        exact sX6_greatestAnywhere_40 τ (fX6_greatestAnywhere_4 τ n) σ x1 x2 x3 hI (by omega) (by omega) (by omega) (by omega) (by omega) (fun y0 y1 y2 y3 q0 q1 q2 q3 q4 q5 q6 => ih y0 y1 y2 y3 q0 q1 q2 q3 q4 q5 (by omega))

theorem sX6_greatestAnywhere_0 (τ : Nat) (σ : S2) (x1 : Int32) (hI : IvC 0 τ σ) (p9000 : 0 ≤ x1.toInt) (p9001 : x1.toInt ≤ 39)  : Ok (fun z => 0 ≤ z.toInt) (fX6_greatestAnywhere_0 τ σ x1) := by
  have hFU : ((FU : Nat) : Int) = 100000 := rfl
  unfold fX6_greatestAnywhere_0
  have : (0 : Int32).toInt = 0 := by decide
  exact sX6_greatestAnywhere_4 τ FU σ x1 0 0 hI (by omega) (by omega) (by omega) (by omega) (by omega) (by omega)

theorem sX6_greatestAnywhere (τ : Nat) (σ : S2) (a1 : Int32) (hI : IvC 0 τ σ) (p9000 : 0 ≤ a1.toInt) (p9001 : a1.toInt ≤ 39)  : Ok (fun z => 0 ≤ z.toInt) (fX6_greatestAnywhere τ σ a1) := by
  unfold fX6_greatestAnywhere
  exact sX6_greatestAnywhere_0 τ σ a1 hI (by assumption) (by assumption)

theorem sX6_mendAll_110 (τ : Nat) (b1 : Nat) (k4 : S2 → Int32 → Int32 → Option (Int32 × S2)) (σ : S2) (x2 : Int32) (x3 : Int32) (hI : IvC 0 τ σ) (p9000 : 0 ≤ x3.toInt) (p9001 : x3.toInt ≤ 39) (hk4 : ∀ (y0 : S2) (y1 : Int32) (y2 : Int32), IvC 0 τ y0 → 0 ≤ y2.toInt → y2.toInt ≤ 40 → x3.toInt + 1 ≤ y2.toInt → Ok (fun z => IvC 0 τ z.2) (k4 y0 y1 y2)) : Ok (fun z => IvC 0 τ z.2) (fX6_mendAll_110 τ b1 k4 σ x2 x3) := by
  have hFU : ((FU : Nat) : Int) = 100000 := rfl
  unfold fX6_mendAll_110
  have : (1 : Int32).toInt = 1 := by decide
  have : ((x3 + 1) : Int32).toInt = (x3 : Int32).toInt + (1 : Int32).toInt := i32_add (by omega) (by omega)
  refine ok_nmI (fun v1 hv1 he1 => ?_)
  have := i32_rng x2
  exact hk4 σ x2 v1 hI (by omega) (by omega) (by omega)

theorem sX6_mendAll_104 (τ : Nat) (b1 : Nat) (k53 : S2 → Int32 → Int32 → Int32 → Int32 → Option (Int32 × S2)) (σ : S2) (x2 : Int32) (x3 : Int32) (x4 : Int32) (x5 : Int32) (hI : IvC 0 τ σ) (p9000 : 0 ≤ x3.toInt) (p9001 : x3.toInt ≤ 39) (p9002 : 1 ≤ x4.toInt) (p9003 : 0 ≤ x5.toInt) (p9004 : x5.toInt ≤ 3) (hk53 : ∀ (y0 : S2) (y1 : Int32) (y2 : Int32) (y3 : Int32) (y4 : Int32), IvC 0 τ y0 → 0 ≤ y2.toInt → y2.toInt ≤ 39 → 1 ≤ y3.toInt → 0 ≤ y4.toInt → y4.toInt ≤ 4 → x5.toInt + 1 ≤ y4.toInt → x3.toInt ≤ y2.toInt → Ok (fun z => IvC 0 τ z.2) (k53 y0 y1 y2 y3 y4)) : Ok (fun z => IvC 0 τ z.2) (fX6_mendAll_104 τ b1 k53 σ x2 x3 x4 x5) := by
  have hFU : ((FU : Nat) : Int) = 100000 := rfl
  unfold fX6_mendAll_104
  have : (1 : Int32).toInt = 1 := by decide
  have : ((x5 + 1) : Int32).toInt = (x5 : Int32).toInt + (1 : Int32).toInt := i32_add (by omega) (by omega)
  refine ok_nmI (fun v2 hv2 he1 => ?_)
  have := i32_rng x2
  have := i32_rng x4
  exact hk53 σ x2 x3 x4 v2 hI (by omega) (by omega) (by omega) (by omega) (by omega) (by omega) (by omega)

theorem sX6_mendAll_53 (τ : Nat) (b1 : Nat) (k4 : S2 → Int32 → Int32 → Option (Int32 × S2)) : ∀ (n : Nat) (σ : S2) (x2 : Int32) (x3 : Int32) (x4 : Int32) (x5 : Int32), IvC 0 τ σ → 0 ≤ x3.toInt → x3.toInt ≤ 39 → 1 ≤ x4.toInt → 0 ≤ x5.toInt → x5.toInt ≤ 4 → 4 - x5.toInt < (n : Int) → (∀ (y0 : S2) (y1 : Int32) (y2 : Int32), IvC 0 τ y0 → 0 ≤ y2.toInt → y2.toInt ≤ 40 → x3.toInt + 1 ≤ y2.toInt → Ok (fun z => IvC 0 τ z.2) (k4 y0 y1 y2)) → Ok (fun z => IvC 0 τ z.2) (fX6_mendAll_53 τ b1 k4 n σ x2 x3 x4 x5) := by
  have hFU : ((FU : Nat) : Int) = 100000 := rfl
  intro n
  induction n with
  | zero => intro σ x2 x3 x4 x5 hI p9000 p9001 p9002 p9003 p9004 hm hk4; exfalso; omega
  | succ n ih =>
    intro σ x2 x3 x4 x5 hI p9000 p9001 p9002 p9003 p9004 hm hk4
    unfold fX6_mendAll_53
    have : 0 ≤ (σ.1 14 3).toInt ∧ (σ.1 14 3).toInt ≤ 4 := hI.1 14 3
    refine ok_le (fun h1 => ?_) (fun h1 => ?_)
    · have := i32_rng x2
      exact sX6_mendAll_110 τ b1 k4 σ x2 x3 hI (by omega) (by omega) (fun y0 y1 y2 q0 q1 q2 q3 => hk4 y0 y1 y2 q0 q1 q2 (by omega))
    · refine ok_ck (by omega) (by omega) ?_
      have : 0 ≤ (σ.1 16 (Int32.toNatClampNeg x5)).toInt ∧ (σ.1 16 (Int32.toNatClampNeg x5)).toInt ≤ 11 := hI.1 16 (Int32.toNatClampNeg x5)
      refine ok_nmI (fun v3 hv3 he2 => ?_)
      refine ok_bi (sX2_isUp τ σ v3 hI (by omega) (by omega)) (fun r4 hr3 => ?_)
      obtain ⟨p4, p5⟩ := hr3
      have p4 : 0 ≤ r4.toInt := p4
      have p5 : r4.toInt ≤ 1 := p5
      have : (0 : Int32).toInt = 0 := by decide
      refine ok_eq (fun h6 => ?_) (fun h6 => ?_)
      · have := i32_rng x2
        have := i32_rng x4
        exact sX6_mendAll_104 τ b1 (fX6_mendAll_53 τ b1 k4 n) σ x2 x3 x4 x5 hI (by omega) (by omega) (by omega) (by omega) (by omega) (fun y0 y1 y2 y3 y4 q0 q1 q2 q3 q4 q5 q6 q7 => ih y0 y1 y2 y3 y4 q0 q1 q2 q3 q4 q5 (by omega) (fun z0 z1 z2 w0 w1 w2 w3 => hk4 z0 z1 z2 w0 w1 w2 (by omega)))
      · have := i32_rng x4
        refine ok_bs (sX6_receives τ σ v3 x3 x4 hI (by omega) (by omega) (by omega) (by omega)) (fun r6 σ7 hr7 => ?_)
        obtain ⟨p8, p9, p10⟩ := hr7
        have p8 : IvC 0 τ σ7 := p8
        have p9 : 0 ≤ r6.toInt := p9
        have p10 : r6.toInt ≤ 1 := p10
        refine ok_eq (fun h11 => ?_) (fun h11 => ?_)
        · have := i32_rng x2
          exact sX6_mendAll_104 τ b1 (fX6_mendAll_53 τ b1 k4 n) σ7 x2 x3 x4 x5 p8 (by omega) (by omega) (by omega) (by omega) (by omega) (fun y0 y1 y2 y3 y4 q0 q1 q2 q3 q4 q5 q6 q7 => ih y0 y1 y2 y3 y4 q0 q1 q2 q3 q4 q5 (by omega) (fun z0 z1 z2 w0 w1 w2 w3 => hk4 z0 z1 z2 w0 w1 w2 (by omega)))
        · have := i32_rng x2
          have : (1 : Int32).toInt = 1 := by decide
          have := i32_rng (x2 + 1)
          refine ok_nmI (fun v9 hv9 he12 => ?_)
          have := i32_rng v9
          exact sX6_mendAll_104 τ b1 (fX6_mendAll_53 τ b1 k4 n) σ7 v9 x3 x4 x5 p8 (by omega) (by omega) (by omega) (by omega) (by omega) (fun y0 y1 y2 y3 y4 q0 q1 q2 q3 q4 q5 q6 q7 => ih y0 y1 y2 y3 y4 q0 q1 q2 q3 q4 q5 (by omega) (fun z0 z1 z2 w0 w1 w2 w3 => hk4 z0 z1 z2 w0 w1 w2 (by omega)))

theorem sX6_mendAll_4 (τ : Nat) (b1 : Nat) : ∀ (n : Nat) (σ : S2) (x2 : Int32) (x3 : Int32), IvC 0 τ σ → 0 ≤ x3.toInt → x3.toInt ≤ 40 → 40 - x3.toInt < (n : Int) → Ok (fun z => IvC 0 τ z.2) (fX6_mendAll_4 τ b1 n σ x2 x3) := by
  have hFU : ((FU : Nat) : Int) = 100000 := rfl
  intro n
  induction n with
  | zero => intro σ x2 x3 hI p9000 p9001 hm; exfalso; omega
  | succ n ih =>
    intro σ x2 x3 hI p9000 p9001 hm
    unfold fX6_mendAll_4
    have : 0 ≤ (σ.1 3 3).toInt ∧ (σ.1 3 3).toInt ≤ 40 := hI.1 3 3
    refine ok_le (fun h1 => ?_) (fun h1 => ?_)
    · have := i32_rng x2
      exact ok_some hI
    · refine ok_bi (sX6_greatestAnywhere τ σ x3 hI (by omega) (by omega)) (fun r10 hr2 => ?_)
      have hr2 : 0 ≤ r10.toInt := hr2
      have := i32_rng r10
      have : (0 : Int32).toInt = 0 := by decide
      refine ok_eq (fun h4 => ?_) (fun h4 => ?_)
      · have := i32_rng x2
        exact sX6_mendAll_110 τ b1 (fX6_mendAll_4 τ b1 n) σ x2 x3 hI (by omega) (by omega) (fun y0 y1 y2 q0 q1 q2 q3 => ih y0 y1 y2 q0 q1 q2 (by omega))
      · have := i32_rng (σ.1 (182 + (6 * b1)) 1)
        refine ok_bi (sX4_placeOf τ σ x3 (σ.1 (182 + (6 * b1)) 1) hI (by omega) (by omega)) (fun r12 hr5 => ?_)
        obtain ⟨p6, p7⟩ := hr5
        have p6 : 0 ≤ r12.toInt := p6
        have p7 : r12.toInt ≤ 999 := p7
        refine ok_bs (sX1_choose τ b1 σ r12 hI (by omega) (by omega)) (fun r14 σ15 hr8 => ?_)
        have hr8 : IvC 0 τ σ15 := hr8
        have := i32_rng x2
        exact sX6_mendAll_53 τ b1 (fX6_mendAll_4 τ b1 n) FU σ15 x2 x3 r10 0 hr8 (by omega) (by omega) (by omega) (by omega) (by omega) (by omega) (fun y0 y1 y2 q0 q1 q2 q3 => ih y0 y1 y2 q0 q1 q2 (by omega))

theorem sX6_mendAll_0 (τ : Nat) (b1 : Nat) (σ : S2) (hI : IvC 0 τ σ)   : Ok (fun z => IvC 0 τ z.2) (fX6_mendAll_0 τ b1 σ) := by
  have hFU : ((FU : Nat) : Int) = 100000 := rfl
  unfold fX6_mendAll_0
  have : (0 : Int32).toInt = 0 := by decide
  exact sX6_mendAll_4 τ b1 FU σ 0 0 hI (by omega) (by omega) (by omega)

theorem sX6_mendAll (τ : Nat) (b1 : Nat) (σ : S2) (hI : IvC 0 τ σ)   : Ok (fun z => IvC 0 τ z.2) (fX6_mendAll τ b1 σ) := by
  unfold fX6_mendAll
  exact sX6_mendAll_0 τ b1 σ hI

theorem sX6_grow_51 (τ : Nat) (c1 : Nat) (n1 : Nat) : ∀ (n : Nat) (σ : S2) (x3 : Int32), IvC 0 τ σ → 0 ≤ x3.toInt → x3.toInt ≤ 7 → FaC 0 τ c1 → (n1 : Int) = 16 → x3.toInt - 0 < (n : Int) → Ok (fun z => IvC 0 τ z.2) (fX6_grow_51 τ c1 n1 n σ x3) := by
  have hFU : ((FU : Nat) : Int) = 100000 := rfl
  intro n
  induction n with
  | zero => intro σ x3 hI p9000 p9001 p9002 p9003 hm; exfalso; omega
  | succ n ih =>
    intro σ x3 hI p9000 p9001 p9002 p9003 hm
    unfold fX6_grow_51
    have : (1 : Int32).toInt = 1 := by decide
    refine ok_lt (fun h1 => ?_) (fun h1 => ?_)
    · exact ok_some hI
    · have : (2 : Int32).toInt = 2 := by decide
      have : ((2 * x3) : Int32).toInt = 2 * (x3 : Int32).toInt := i32_mulL (by omega) (by omega) (by omega)
      refine ok_ck (by omega) (by omega) ?_
      have := i32_rng (σ.1 c1 (Int32.toNatClampNeg (2 * x3)))
      refine ok_nmI (fun v1 hv1 he2 => ?_)
      have : (((2 * x3) + 1) : Int32).toInt = ((2 * x3) : Int32).toInt + (1 : Int32).toInt := i32_add (by omega) (by omega)
      refine ok_ck (by omega) (by omega) ?_
      have := i32_rng (σ.1 c1 (Int32.toNatClampNeg ((2 * x3) + 1)))
      refine ok_nmI (fun v2 hv2 he3 => ?_)
      refine ok_ck (by omega) (by omega) ?_
      have := i32_rng v1
      have := i32_rng v2
      have := i32_rng (v1 + v2)
      refine ok_nm (fun σ3 hs4 => ?_)
      have hI5 : IvC 0 τ σ3 := by rw [hs4]; first | exact (show FlC 0 τ c1 (v1 + v2) by assumption) _ _ hI | exact (show FaC 0 τ c1 by assumption) _ _ _ hI
      refine ok_nmI (fun v4 hv4 he6 => ?_)
      have : v4.toInt = x3.toInt - 1 := by rw [he6]; exact i32_addm1 (by omega)
      clear hv4 he6
      exact ih σ3 v4 hI5 (by omega) (by omega) (by first | assumption | exact KeM.rf _) (by omega) (by omega)

theorem sX6_grow_7 (τ : Nat) (c1 : Nat) (n1 : Nat) : ∀ (n : Nat) (σ : S2) (x2 : Int32) (x3 : Int32), IvC 0 τ σ → 0 ≤ x2.toInt → x2.toInt ≤ 11 → 0 ≤ x3.toInt → x3.toInt ≤ 40 → FaC 0 τ c1 → (n1 : Int) = 16 → 40 - x3.toInt < (n : Int) → Ok (fun z => IvC 0 τ z.2) (fX6_grow_7 τ c1 n1 n σ x2 x3) := by
  have hFU : ((FU : Nat) : Int) = 100000 := rfl
  intro n
  induction n with
  | zero => intro σ x2 x3 hI p9000 p9001 p9002 p9003 p9004 p9005 hm; exfalso; omega
  | succ n ih =>
    intro σ x2 x3 hI p9000 p9001 p9002 p9003 p9004 p9005 hm
    unfold fX6_grow_7
    have : 0 ≤ (σ.1 3 3).toInt ∧ (σ.1 3 3).toInt ≤ 40 := hI.1 3 3
    refine ok_le (fun h1 => ?_) (fun h1 => ?_)
    · have : (7 : Int32).toInt = 7 := by decide
      exact sX6_grow_51 τ c1 n1 FU σ 7 hI (by omega) (by omega) (by first | assumption | exact KeM.rf _) (by omega) (by omega)
    · have : (8 : Int32).toInt = 8 := by decide
      refine ok_dz (by omega) ?_
      have : ((x3 - ((x3 / 8) * 8)) : Int32).toInt = (x3 : Int32).toInt % 8 := i32_rem (by first | decide | omega | rfl) (by omega) (by omega)
      have : ((8 + (x3 - ((x3 / 8) * 8))) : Int32).toInt = (8 : Int32).toInt + ((x3 - ((x3 / 8) * 8)) : Int32).toInt := i32_add (by omega) (by omega)
      refine ok_ck (by omega) (by omega) ?_
      have := i32_rng (σ.1 c1 (Int32.toNatClampNeg (8 + (x3 - ((x3 / 8) * 8)))))
      refine ok_nmI (fun v6 hv6 he2 => ?_)
      refine ok_ck (by omega) (by omega) ?_
      refine ok_ck (by omega) (by omega) ?_
      have := i32_rng (σ.1 (84 + (Int32.toNatClampNeg x2)) (Int32.toNatClampNeg x3))
      refine ok_nmI (fun v8 hv8 he3 => ?_)
      refine ok_ck (by omega) (by omega) ?_
      have := i32_rng v6
      have : (1 : Int32).toInt = 1 := by decide
      have : ((x3 + 1) : Int32).toInt = (x3 : Int32).toInt + (1 : Int32).toInt := i32_add (by omega) (by omega)
      have := i32_rng v8
      have := i32_rng ((x3 + 1) * v8)
      have := i32_rng (v6 + ((x3 + 1) * v8))
      refine ok_nm (fun σ9 hs4 => ?_)
      have hI5 : IvC 0 τ σ9 := by rw [hs4]; first | exact (show FlC 0 τ c1 (v6 + ((x3 + 1) * v8)) by assumption) _ _ hI | exact (show FaC 0 τ c1 by assumption) _ _ _ hI
      refine ok_nmI (fun v10 hv10 he6 => ?_)
      exact ih σ9 x2 v10 hI5 (by omega) (by omega) (by omega) (by omega) (by first | assumption | exact KeM.rf _) (by omega) (by omega)

theorem sX6_grow_0 (τ : Nat) (c1 : Nat) (n1 : Nat) (σ : S2) (x2 : Int32) (hI : IvC 0 τ σ) (p9000 : 0 ≤ x2.toInt) (p9001 : x2.toInt ≤ 11) (p9002 : FaC 0 τ c1) (p9003 : (n1 : Int) = 16)  : Ok (fun z => IvC 0 τ z.2) (fX6_grow_0 τ c1 n1 σ x2) := by
  have hFU : ((FU : Nat) : Int) = 100000 := rfl
  unfold fX6_grow_0
  have : (0 : Int32).toInt = 0 := by decide
  refine ok_bs (sJ7_fill_53178 τ c1 n1 σ 0 hI (by omega) (by omega) (by first | assumption | exact KeM.rf _ | exact FaC.fl (by assumption)) (by omega)) (fun r11 σ12 hr1 => ?_)
  have hr1 : IvC 0 τ σ12 := hr1
  exact sX6_grow_7 τ c1 n1 FU σ12 x2 0 hr1 (by omega) (by omega) (by omega) (by omega) (by first | assumption | exact KeM.rf _) (by omega) (by omega)

theorem sX6_grow (τ : Nat) (c1 : Nat) (n1 : Nat) (σ : S2) (a2 : Int32) (hI : IvC 0 τ σ) (p9000 : 0 ≤ a2.toInt) (p9001 : a2.toInt ≤ 11) (p9002 : FaC 0 τ c1) (p9003 : (n1 : Int) = 16)  : Ok (fun z => IvC 0 τ z.2) (fX6_grow τ c1 n1 σ a2) := by
  unfold fX6_grow
  exact sX6_grow_0 τ c1 n1 σ a2 hI (by assumption) (by assumption) (by assumption) (by assumption)

theorem sX6_compare_0 (τ : Nat) (σ : S2) (x1 : Int32) (x2 : Int32) (hI : IvC 0 τ σ) (p9000 : 0 ≤ x1.toInt) (p9001 : x1.toInt ≤ 11) (p9002 : 0 ≤ x2.toInt) (p9003 : x2.toInt ≤ 11)  : Ok (fun z => IvC 0 τ z.2) (fX6_compare_0 τ σ x1 x2) := by
  have hFU : ((FU : Nat) : Int) = 100000 := rfl
  unfold fX6_compare_0
  refine ok_bs (sX6_grow τ 25 16 σ x1 hI (by omega) (by omega) (by first | assumption | exact KeM.rf _ | exact FaC.a25 | exact FaC.a26) (by omega)) (fun r1 σ2 hr1 => ?_)
  have hr1 : IvC 0 τ σ2 := hr1
  refine ok_bs (sX6_grow τ 26 16 σ2 x2 hr1 (by omega) (by omega) (by first | assumption | exact KeM.rf _ | exact FaC.a25 | exact FaC.a26) (by omega)) (fun r4 σ5 hr3 => ?_)
  have hr3 : IvC 0 τ σ5 := hr3
  exact ok_some hr3

theorem sX6_compare (τ : Nat) (σ : S2) (a1 : Int32) (a2 : Int32) (hI : IvC 0 τ σ) (p9000 : 0 ≤ a1.toInt) (p9001 : a1.toInt ≤ 11) (p9002 : 0 ≤ a2.toInt) (p9003 : a2.toInt ≤ 11)  : Ok (fun z => IvC 0 τ z.2) (fX6_compare τ σ a1 a2) := by
  unfold fX6_compare
  exact sX6_compare_0 τ σ a1 a2 hI (by assumption) (by assumption) (by assumption) (by assumption)

theorem sX6_wordsAsked_49 (τ : Nat) (k6 : S2 → Int32 → Int32 → Int32 → Option Int32) (σ : S2) (x1 : Int32) (x2 : Int32) (x3 : Int32) (hI : IvC 0 τ σ) (p9000 : 1 ≤ x3.toInt) (p9001 : x3.toInt ≤ 7) (hk6 : ∀ (y0 : S2) (y1 : Int32) (y2 : Int32) (y3 : Int32), IvC 0 τ y0 → 1 ≤ y3.toInt → y3.toInt ≤ 8 → x3.toInt + 1 ≤ y3.toInt → Ok (fun z => True) (k6 y0 y1 y2 y3)) : Ok (fun z => True) (fX6_wordsAsked_49 τ k6 σ x1 x2 x3) := by
  have hFU : ((FU : Nat) : Int) = 100000 := rfl
  unfold fX6_wordsAsked_49
  have : (1 : Int32).toInt = 1 := by decide
  have : ((x3 + 1) : Int32).toInt = (x3 : Int32).toInt + (1 : Int32).toInt := i32_add (by omega) (by omega)
  refine ok_nmI (fun v1 hv1 he1 => ?_)
  have := i32_rng x1
  have := i32_rng x2
  exact hk6 σ x1 x2 v1 hI (by omega) (by omega) (by omega)

theorem sX6_wordsAsked_6 (τ : Nat) : ∀ (n : Nat) (σ : S2) (x1 : Int32) (x2 : Int32) (x3 : Int32), IvC 0 τ σ → 1 ≤ x3.toInt → x3.toInt ≤ 8 → 8 - x3.toInt < (n : Int) → Ok (fun z => True) (fX6_wordsAsked_6 τ n σ x1 x2 x3) := by
  have hFU : ((FU : Nat) : Int) = 100000 := rfl
  intro n
  induction n with
  | zero => intro σ x1 x2 x3 hI p9000 p9001 hm; exfalso; omega
  | succ n ih =>
    intro σ x1 x2 x3 hI p9000 p9001 hm
    unfold fX6_wordsAsked_6
    have : (8 : Int32).toInt = 8 := by decide
    refine ok_le (fun h1 => ?_) (fun h1 => ?_)
    · have := i32_rng x1
      exact ok_some trivial
    · have := i32_rng x2
      have : (31 : Int32).toInt = 31 := by decide
      have := i32_andR (a := x3) (m := 31) (by omega)
      have := i32_andL (a := x3) (m := 31) (by omega)
      have := i32_rng (x2 >>> (x3 &&& 31))
      have : (1 : Int32).toInt = 1 := by decide
      have := i32_andR (a := (x2 >>> (x3 &&& 31))) (m := 1) (by omega)
      have : (0 : Int32).toInt = 0 := by decide
      refine ok_eq (fun h2 => ?_) (fun h2 => ?_)
      · have := i32_rng x1
        exact sX6_wordsAsked_49 τ (fX6_wordsAsked_6 τ n) σ x1 x2 x3 hI (by omega) (by omega) (fun y0 y1 y2 y3 q0 q1 q2 q3 => ih y0 y1 y2 y3 q0 q1 q2 (by omega))
      · refine ok_ck (by omega) (by omega) ?_
        have := i32_rng (σ.1 25 (Int32.toNatClampNeg x3))
        refine ok_nmI (fun v2 hv2 he3 => ?_)
        refine ok_ck (by omega) (by omega) ?_
        have := i32_rng (σ.1 26 (Int32.toNatClampNeg x3))
        refine ok_nmI (fun v3 hv3 he4 => ?_)
        have := i32_rng v2
        have := i32_rng v3
        refine ok_eq (fun h5 => ?_) (fun h5 => ?_)
        · have := i32_rng x1
          exact sX6_wordsAsked_49 τ (fX6_wordsAsked_6 τ n) σ x1 x2 x3 hI (by omega) (by omega) (fun y0 y1 y2 y3 q0 q1 q2 q3 => ih y0 y1 y2 y3 q0 q1 q2 (by omega))
        · have := i32_rng x1
          have : (2 : Int32).toInt = 2 := by decide
          have := i32_rng (x1 + 2)
          refine ok_nmI (fun v4 hv4 he6 => ?_)
          have : (3 : Int32).toInt = 3 := by decide
          have : ((2 * x3) : Int32).toInt = 2 * (x3 : Int32).toInt := i32_mulL (by omega) (by omega) (by omega)
          have := i32_andR (a := (2 * x3)) (m := 31) (by omega)
          have := i32_andL (a := (2 * x3)) (m := 31) (by omega)
          have := i32_rng (3 <<< ((2 * x3) &&& 31))
          have := i32_rng (x2 ||| (3 <<< ((2 * x3) &&& 31)))
          refine ok_nmI (fun v5 hv5 he7 => ?_)
          have := i32_rng v4
          have := i32_rng v5
          exact sX6_wordsAsked_49 τ (fX6_wordsAsked_6 τ n) σ v4 v5 x3 hI (by omega) (by omega) (fun y0 y1 y2 y3 q0 q1 q2 q3 => ih y0 y1 y2 y3 q0 q1 q2 (by omega))

theorem sX6_wordsAsked_0 (τ : Nat) (σ : S2) (hI : IvC 0 τ σ)   : Ok (fun z => True) (fX6_wordsAsked_0 τ σ) := by
  have hFU : ((FU : Nat) : Int) = 100000 := rfl
  unfold fX6_wordsAsked_0
  have : (1 : Int32).toInt = 1 := by decide
  have : (2 : Int32).toInt = 2 := by decide
  exact sX6_wordsAsked_6 τ FU σ 1 2 1 hI (by omega) (by omega) (by omega)

theorem sX6_wordsAsked (τ : Nat) (σ : S2) (hI : IvC 0 τ σ)   : Ok (fun z => True) (fX6_wordsAsked τ σ) := by
  unfold fX6_wordsAsked
  exact sX6_wordsAsked_0 τ σ hI

theorem sX6_unlikeLeaves_29 (τ : Nat) (k5 : S2 → Int32 → Int32 → Option Int32) (σ : S2) (x1 : Int32) (x2 : Int32) (hI : IvC 0 τ σ) (p9000 : 8 ≤ x2.toInt) (p9001 : x2.toInt ≤ 15) (hk5 : ∀ (y0 : S2) (y1 : Int32) (y2 : Int32), IvC 0 τ y0 → 8 ≤ y2.toInt → y2.toInt ≤ 16 → x2.toInt + 1 ≤ y2.toInt → Ok (fun z => True) (k5 y0 y1 y2)) : Ok (fun z => True) (fX6_unlikeLeaves_29 τ k5 σ x1 x2) := by
  have hFU : ((FU : Nat) : Int) = 100000 := rfl
  unfold fX6_unlikeLeaves_29
  have : (1 : Int32).toInt = 1 := by decide
  have : ((x2 + 1) : Int32).toInt = (x2 : Int32).toInt + (1 : Int32).toInt := i32_add (by omega) (by omega)
  refine ok_nmI (fun v1 hv1 he1 => ?_)
  have := i32_rng x1
  exact hk5 σ x1 v1 hI (by omega) (by omega) (by omega)

theorem sX6_unlikeLeaves_5 (τ : Nat) : ∀ (n : Nat) (σ : S2) (x1 : Int32) (x2 : Int32), IvC 0 τ σ → 8 ≤ x2.toInt → x2.toInt ≤ 16 → 16 - x2.toInt < (n : Int) → Ok (fun z => True) (fX6_unlikeLeaves_5 τ n σ x1 x2) := by
  have hFU : ((FU : Nat) : Int) = 100000 := rfl
  intro n
  induction n with
  | zero => intro σ x1 x2 hI p9000 p9001 hm; exfalso; omega
  | succ n ih =>
    intro σ x1 x2 hI p9000 p9001 hm
    unfold fX6_unlikeLeaves_5
    have : (16 : Int32).toInt = 16 := by decide
    refine ok_le (fun h1 => ?_) (fun h1 => ?_)
    · have := i32_rng x1
      exact ok_some trivial
    · refine ok_ck (by omega) (by omega) ?_
      have := i32_rng (σ.1 25 (Int32.toNatClampNeg x2))
      refine ok_nmI (fun v2 hv2 he2 => ?_)
      refine ok_ck (by omega) (by omega) ?_
      have := i32_rng (σ.1 26 (Int32.toNatClampNeg x2))
      refine ok_nmI (fun v3 hv3 he3 => ?_)
      have := i32_rng v2
      have := i32_rng v3
      refine ok_eq (fun h4 => ?_) (fun h4 => ?_)
      · have := i32_rng x1
        exact sX6_unlikeLeaves_29 τ (fX6_unlikeLeaves_5 τ n) σ x1 x2 hI (by omega) (by omega) (fun y0 y1 y2 q0 q1 q2 q3 => ih y0 y1 y2 q0 q1 q2 (by omega))
      · have := i32_rng x1
        have : (1 : Int32).toInt = 1 := by decide
        have := i32_rng (x1 + 1)
        refine ok_nmI (fun v4 hv4 he5 => ?_)
        have := i32_rng v4
        exact sX6_unlikeLeaves_29 τ (fX6_unlikeLeaves_5 τ n) σ v4 x2 hI (by omega) (by omega) (fun y0 y1 y2 q0 q1 q2 q3 => ih y0 y1 y2 q0 q1 q2 (by omega))

theorem sX6_unlikeLeaves_0 (τ : Nat) (σ : S2) (hI : IvC 0 τ σ)   : Ok (fun z => True) (fX6_unlikeLeaves_0 τ σ) := by
  have hFU : ((FU : Nat) : Int) = 100000 := rfl
  unfold fX6_unlikeLeaves_0
  have : (0 : Int32).toInt = 0 := by decide
  have : (8 : Int32).toInt = 8 := by decide
  exact sX6_unlikeLeaves_5 τ FU σ 0 8 hI (by omega) (by omega) (by omega)

theorem sX6_unlikeLeaves (τ : Nat) (σ : S2) (hI : IvC 0 τ σ)   : Ok (fun z => True) (fX6_unlikeLeaves τ σ) := by
  unfold fX6_unlikeLeaves
  exact sX6_unlikeLeaves_0 τ σ hI

theorem sX6_keptBy_0 (τ : Nat) (σ : S2) (x1 : Int32) (hI : IvC 0 τ σ) (p9000 : 0 ≤ x1.toInt) (p9001 : x1.toInt ≤ 11)  : Ok (fun z => True) (fX6_keptBy_0 τ σ x1) := by
  have hFU : ((FU : Nat) : Int) = 100000 := rfl
  unfold fX6_keptBy_0
  refine ok_ck (by omega) (by omega) ?_
  refine ok_bi (sX6_filled τ (96 + (Int32.toNatClampNeg x1)) 40 σ hI (by omega)) (fun r2 hr1 => ?_)
  have := i32_rng r2
  exact ok_some trivial

theorem sX6_keptBy (τ : Nat) (σ : S2) (a1 : Int32) (hI : IvC 0 τ σ) (p9000 : 0 ≤ a1.toInt) (p9001 : a1.toInt ≤ 11)  : Ok (fun z => True) (fX6_keptBy τ σ a1) := by
  unfold fX6_keptBy
  exact sX6_keptBy_0 τ σ a1 hI (by assumption) (by assumption)

theorem sX6_allCopies_4 (τ : Nat) : ∀ (n : Nat) (σ : S2) (x1 : Int32) (x2 : Int32), IvC 0 τ σ → 0 ≤ x2.toInt → x2.toInt ≤ 12 → 12 - x2.toInt < (n : Int) → Ok (fun z => True) (fX6_allCopies_4 τ n σ x1 x2) := by
  have hFU : ((FU : Nat) : Int) = 100000 := rfl
  intro n
  induction n with
  | zero => intro σ x1 x2 hI p9000 p9001 hm; exfalso; omega
  | succ n ih =>
    intro σ x1 x2 hI p9000 p9001 hm
    unfold fX6_allCopies_4
    have : 0 ≤ (σ.1 7 5).toInt ∧ (σ.1 7 5).toInt ≤ 12 := hI.1 7 5
    refine ok_le (fun h1 => ?_) (fun h1 => ?_)
    · have := i32_rng x1
      exact ok_some trivial
    · refine ok_bi (sX6_copiesOn τ σ x2 hI (by omega) (by omega)) (fun r1 hr2 => ?_)
      have := i32_rng x1
      have := i32_rng r1
      have := i32_rng (x1 + r1)
      refine ok_nmI (fun v3 hv3 he3 => ?_)
      have : (1 : Int32).toInt = 1 := by decide
      have : ((x2 + 1) : Int32).toInt = (x2 : Int32).toInt + (1 : Int32).toInt := i32_add (by omega) (by omega)
      refine ok_nmI (fun v4 hv4 he4 => ?_)
      have := i32_rng v3
      exact ih σ v3 v4 hI (by omega) (by omega) (by omega)

theorem sX6_allCopies_0 (τ : Nat) (σ : S2) (hI : IvC 0 τ σ)   : Ok (fun z => True) (fX6_allCopies_0 τ σ) := by
  have hFU : ((FU : Nat) : Int) = 100000 := rfl
  unfold fX6_allCopies_0
  have : (0 : Int32).toInt = 0 := by decide
  exact sX6_allCopies_4 τ FU σ 0 0 hI (by omega) (by omega) (by omega)

theorem sX6_allCopies (τ : Nat) (σ : S2) (hI : IvC 0 τ σ)   : Ok (fun z => True) (fX6_allCopies τ σ) := by
  unfold fX6_allCopies
  exact sX6_allCopies_0 τ σ hI

theorem sX6_allKept_4 (τ : Nat) : ∀ (n : Nat) (σ : S2) (x1 : Int32) (x2 : Int32), IvC 0 τ σ → 0 ≤ x2.toInt → x2.toInt ≤ 12 → 12 - x2.toInt < (n : Int) → Ok (fun z => True) (fX6_allKept_4 τ n σ x1 x2) := by
  have hFU : ((FU : Nat) : Int) = 100000 := rfl
  intro n
  induction n with
  | zero => intro σ x1 x2 hI p9000 p9001 hm; exfalso; omega
  | succ n ih =>
    intro σ x1 x2 hI p9000 p9001 hm
    unfold fX6_allKept_4
    have : 0 ≤ (σ.1 7 5).toInt ∧ (σ.1 7 5).toInt ≤ 12 := hI.1 7 5
    refine ok_le (fun h1 => ?_) (fun h1 => ?_)
    · have := i32_rng x1
      exact ok_some trivial
    · refine ok_bi (sX6_keptBy τ σ x2 hI (by omega) (by omega)) (fun r1 hr2 => ?_)
      have := i32_rng x1
      have := i32_rng r1
      have := i32_rng (x1 + r1)
      refine ok_nmI (fun v3 hv3 he3 => ?_)
      have : (1 : Int32).toInt = 1 := by decide
      have : ((x2 + 1) : Int32).toInt = (x2 : Int32).toInt + (1 : Int32).toInt := i32_add (by omega) (by omega)
      refine ok_nmI (fun v4 hv4 he4 => ?_)
      have := i32_rng v3
      exact ih σ v3 v4 hI (by omega) (by omega) (by omega)

theorem sX6_allKept_0 (τ : Nat) (σ : S2) (hI : IvC 0 τ σ)   : Ok (fun z => True) (fX6_allKept_0 τ σ) := by
  have hFU : ((FU : Nat) : Int) = 100000 := rfl
  unfold fX6_allKept_0
  have : (0 : Int32).toInt = 0 := by decide
  exact sX6_allKept_4 τ FU σ 0 0 hI (by omega) (by omega) (by omega)

theorem sX6_allKept (τ : Nat) (σ : S2) (hI : IvC 0 τ σ)   : Ok (fun z => True) (fX6_allKept τ σ) := by
  unfold fX6_allKept
  exact sX6_allKept_0 τ σ hI

theorem sX7_holdKeeper_0 (τ : Nat) (σ : S2) (x1 : Int32) (x2 : Int32) (hI : IvC 0 τ σ) (p9000 : 0 ≤ x1.toInt) (p9001 : x1.toInt ≤ 5) (p9002 : (-1) ≤ x2.toInt) (p9003 : x2.toInt ≤ 11)  : Ok (fun z => IvC 0 τ z.2) (fX7_holdKeeper_0 τ σ x1 x2) := by
  have hFU : ((FU : Nat) : Int) = 100000 := rfl
  unfold fX7_holdKeeper_0
  refine ok_ck (by omega) (by omega) ?_
  refine ok_nm (fun σ1 hs1 => ?_)
  have hI2 : IvC 0 τ σ1 := by rw [hs1]; exact IvC.wF hI (by decide) (by omega) (show (-1) ≤ (x2 : Int32).toInt by omega) (show (x2 : Int32).toInt ≤ 11 by omega)
  refine ok_ck (by omega) (by omega) ?_
  have : ((-1) : Int32).toInt = (-1) := by decide
  refine ok_nm (fun σ2 hs3 => ?_)
  have hI4 : IvC 0 τ σ2 := by rw [hs3]; exact IvC.wF hI2 (by decide) (by omega) (show (-1) ≤ ((-1) : Int32).toInt by omega) (show ((-1) : Int32).toInt ≤ 4 by omega)
  refine ok_ck (by omega) (by omega) ?_
  have : (0 : Int32).toInt = 0 := by decide
  refine ok_nm (fun σ3 hs5 => ?_)
  have hI6 : IvC 0 τ σ3 := by rw [hs5]; exact IvC.wF hI4 (by decide) (by omega) (show 0 ≤ (0 : Int32).toInt by omega) (show (0 : Int32).toInt ≤ 60 by omega)
  exact ok_some hI6

theorem sX7_holdKeeper (τ : Nat) (σ : S2) (a1 : Int32) (a2 : Int32) (hI : IvC 0 τ σ) (p9000 : 0 ≤ a1.toInt) (p9001 : a1.toInt ≤ 5) (p9002 : (-1) ≤ a2.toInt) (p9003 : a2.toInt ≤ 11)  : Ok (fun z => IvC 0 τ z.2) (fX7_holdKeeper τ σ a1 a2) := by
  unfold fX7_holdKeeper
  exact sX7_holdKeeper_0 τ σ a1 a2 hI (by assumption) (by assumption) (by assumption) (by assumption)

theorem sJ7_fill_d0a16_6 (τ : Nat) (c0 : Nat) (n0 : Nat) : ∀ (n : Nat) (σ : S2) (x1 : Int64) (x3 : Int32) (x4 : Int32), IvC 0 τ σ → 0 ≤ x3.toInt → x3.toInt ≤ 1000 → 0 ≤ x4.toInt → x4.toInt ≤ 1000 → (n0 : Int) ≤ 1000 → x4.toInt ≤ (n0 : Int) → 1000 - x3.toInt < (n : Int) → Ok (fun z => IvC 0 τ z.2) (fJ7_fill_d0a16_6 τ c0 n0 n σ x1 x3 x4) := by
  have hFU : ((FU : Nat) : Int) = 100000 := rfl
  intro n
  induction n with
  | zero => intro σ x1 x3 x4 hI p9000 p9001 p9002 p9003 p9004 p9005 hm; exfalso; omega
  | succ n ih =>
    intro σ x1 x3 x4 hI p9000 p9001 p9002 p9003 p9004 p9005 hm
    unfold fJ7_fill_d0a16_6
    refine ok_le (fun h1 => ?_) (fun h1 => ?_)
    · exact ok_some hI
    · refine ok_ck (by omega) (by omega) ?_
      refine ok_nm (fun σ1 hs2 => ?_)
      have hI3 : IvC 0 τ σ1 := by rw [hs2]; exact IvC.wL hI
      have : (1 : Int32).toInt = 1 := by decide
      have : ((x3 + 1) : Int32).toInt = (x3 : Int32).toInt + (1 : Int32).toInt := i32_add (by omega) (by omega)
      refine ok_nmI (fun v2 hv2 he4 => ?_)
      exact ih σ1 x1 v2 x4 hI3 (by omega) (by omega) (by omega) (by omega) (by omega) (by omega) (by omega)

theorem sJ7_fill_d0a16_0 (τ : Nat) (c0 : Nat) (n0 : Nat) (σ : S2) (x1 : Int64) (hI : IvC 0 τ σ) (p9000 : (n0 : Int) ≤ 1000)  : Ok (fun z => IvC 0 τ z.2) (fJ7_fill_d0a16_0 τ c0 n0 σ x1) := by
  have hFU : ((FU : Nat) : Int) = 100000 := rfl
  unfold fJ7_fill_d0a16_0
  have : ((Int32.ofNat n0) : Int32).toInt = (n0 : Int) := i32_ofNat (by omega)
  refine ok_nmI (fun v3 hv3 he1 => ?_)
  have : (0 : Int32).toInt = 0 := by decide
  exact sJ7_fill_d0a16_6 τ c0 n0 FU σ x1 0 v3 hI (by omega) (by omega) (by omega) (by omega) (by omega) (by omega) (by omega)

theorem sJ7_fill_d0a16 (τ : Nat) (c0 : Nat) (n0 : Nat) (σ : S2) (a1 : Int64) (hI : IvC 0 τ σ) (p9000 : (n0 : Int) ≤ 1000)  : Ok (fun z => IvC 0 τ z.2) (fJ7_fill_d0a16 τ c0 n0 σ a1) := by
  unfold fJ7_fill_d0a16
  exact sJ7_fill_d0a16_0 τ c0 n0 σ a1 hI (by assumption)

theorem sX7_holdRow_0 (τ : Nat) (σ : S2) (x1 : Int32) (x2 : Int32) (x3 : Int32) (hI : IvC 0 τ σ) (p9000 : 0 ≤ x1.toInt) (p9001 : x1.toInt ≤ 5) (p9002 : 0 ≤ x2.toInt) (p9003 : x2.toInt ≤ 4) (p9004 : 0 ≤ x3.toInt) (p9005 : x3.toInt ≤ 60)  : Ok (fun z => IvC 0 τ z.2) (fX7_holdRow_0 τ σ x1 x2 x3) := by
  have hFU : ((FU : Nat) : Int) = 100000 := rfl
  unfold fX7_holdRow_0
  refine ok_ck (by omega) (by omega) ?_
  have : ((-1) : Int32).toInt = (-1) := by decide
  refine ok_nm (fun σ1 hs1 => ?_)
  have hI2 : IvC 0 τ σ1 := by rw [hs1]; exact IvC.wF hI (by decide) (by omega) (show (-1) ≤ ((-1) : Int32).toInt by omega) (show ((-1) : Int32).toInt ≤ 11 by omega)
  refine ok_ck (by omega) (by omega) ?_
  refine ok_nm (fun σ2 hs3 => ?_)
  have hI4 : IvC 0 τ σ2 := by rw [hs3]; exact IvC.wF hI2 (by decide) (by omega) (show (-1) ≤ (x2 : Int32).toInt by omega) (show (x2 : Int32).toInt ≤ 4 by omega)
  refine ok_ck (by omega) (by omega) ?_
  refine ok_nm (fun σ3 hs5 => ?_)
  have hI6 : IvC 0 τ σ3 := by rw [hs5]; exact IvC.wF hI4 (by decide) (by omega) (show 0 ≤ (x3 : Int32).toInt by omega) (show (x3 : Int32).toInt ≤ 60 by omega)
  refine ok_ck (by omega) (by omega) ?_
  refine ok_bs (sJ7_fill_d0a16 τ (176 + (Int32.toNatClampNeg x1)) 60 σ3 0 hI6 (by omega)) (fun r5 σ6 hr7 => ?_)
  have hr7 : IvC 0 τ σ6 := hr7
  exact ok_some hr7

theorem sX7_holdRow (τ : Nat) (σ : S2) (a1 : Int32) (a2 : Int32) (a3 : Int32) (hI : IvC 0 τ σ) (p9000 : 0 ≤ a1.toInt) (p9001 : a1.toInt ≤ 5) (p9002 : 0 ≤ a2.toInt) (p9003 : a2.toInt ≤ 4) (p9004 : 0 ≤ a3.toInt) (p9005 : a3.toInt ≤ 60)  : Ok (fun z => IvC 0 τ z.2) (fX7_holdRow τ σ a1 a2 a3) := by
  unfold fX7_holdRow
  exact sX7_holdRow_0 τ σ a1 a2 a3 hI (by assumption) (by assumption) (by assumption) (by assumption) (by assumption) (by assumption)

theorem sX7_isRow_0 (τ : Nat) (σ : S2) (x1 : Int32) (hI : IvC 0 τ σ) (p9000 : 0 ≤ x1.toInt) (p9001 : x1.toInt ≤ 5)  : Ok (fun z => 0 ≤ z.toInt ∧ z.toInt ≤ 1) (fX7_isRow_0 τ σ x1) := by
  have hFU : ((FU : Nat) : Int) = 100000 := rfl
  unfold fX7_isRow_0
  refine ok_ck (by omega) (by omega) ?_
  have : (-1) ≤ (σ.1 39 (Int32.toNatClampNeg x1)).toInt ∧ (σ.1 39 (Int32.toNatClampNeg x1)).toInt ≤ 4 := hI.1 39 (Int32.toNatClampNeg x1)
  refine ok_nmI (fun v1 hv1 he1 => ?_)
  have : ((-1) : Int32).toInt = (-1) := by decide
  refine ok_eq (fun h2 => ?_) (fun h2 => ?_)
  · have : (0 : Int32).toInt = 0 := by decide
    exact ok_some ⟨by show 0 ≤ (0 : Int32).toInt; omega, by show (0 : Int32).toInt ≤ 1; omega⟩
  · have : (1 : Int32).toInt = 1 := by decide
    exact ok_some ⟨by show 0 ≤ (1 : Int32).toInt; omega, by show (1 : Int32).toInt ≤ 1; omega⟩

theorem sX7_isRow (τ : Nat) (σ : S2) (a1 : Int32) (hI : IvC 0 τ σ) (p9000 : 0 ≤ a1.toInt) (p9001 : a1.toInt ≤ 5)  : Ok (fun z => 0 ≤ z.toInt ∧ z.toInt ≤ 1) (fX7_isRow τ σ a1) := by
  unfold fX7_isRow
  exact sX7_isRow_0 τ σ a1 hI (by assumption) (by assumption)

theorem sX7_isEmpty_0 (τ : Nat) (σ : S2) (x1 : Int32) (hI : IvC 0 τ σ) (p9000 : 0 ≤ x1.toInt) (p9001 : x1.toInt ≤ 5)  : Ok (fun z => 0 ≤ z.toInt ∧ z.toInt ≤ 1) (fX7_isEmpty_0 τ σ x1) := by
  have hFU : ((FU : Nat) : Int) = 100000 := rfl
  unfold fX7_isEmpty_0
  refine ok_ck (by omega) (by omega) ?_
  have : (-1) ≤ (σ.1 39 (Int32.toNatClampNeg x1)).toInt ∧ (σ.1 39 (Int32.toNatClampNeg x1)).toInt ≤ 4 := hI.1 39 (Int32.toNatClampNeg x1)
  refine ok_nmI (fun v1 hv1 he1 => ?_)
  have : ((-1) : Int32).toInt = (-1) := by decide
  refine ok_eq (fun h2 => ?_) (fun h2 => ?_)
  · refine ok_ck (by omega) (by omega) ?_
    have : (-1) ≤ (σ.1 38 (Int32.toNatClampNeg x1)).toInt ∧ (σ.1 38 (Int32.toNatClampNeg x1)).toInt ≤ 11 := hI.1 38 (Int32.toNatClampNeg x1)
    refine ok_nmI (fun v2 hv2 he3 => ?_)
    refine ok_eq (fun h4 => ?_) (fun h4 => ?_)
    · have : (1 : Int32).toInt = 1 := by decide
      exact ok_some ⟨by show 0 ≤ (1 : Int32).toInt; omega, by show (1 : Int32).toInt ≤ 1; omega⟩
    · have : (0 : Int32).toInt = 0 := by decide
      exact ok_some ⟨by show 0 ≤ (0 : Int32).toInt; omega, by show (0 : Int32).toInt ≤ 1; omega⟩
  · have : (0 : Int32).toInt = 0 := by decide
    exact ok_some ⟨by show 0 ≤ (0 : Int32).toInt; omega, by show (0 : Int32).toInt ≤ 1; omega⟩

theorem sX7_isEmpty (τ : Nat) (σ : S2) (a1 : Int32) (hI : IvC 0 τ σ) (p9000 : 0 ≤ a1.toInt) (p9001 : a1.toInt ≤ 5)  : Ok (fun z => 0 ≤ z.toInt ∧ z.toInt ≤ 1) (fX7_isEmpty τ σ a1) := by
  unfold fX7_isEmpty
  exact sX7_isEmpty_0 τ σ a1 hI (by assumption) (by assumption)

theorem sX7_refusalAt_0 (τ : Nat) (σ : S2) (x1 : Int32) (x2 : Int32) (hI : IvC 0 τ σ) (p9000 : 0 ≤ x1.toInt) (p9001 : x1.toInt ≤ 5)  : Ok (fun z => (-13) ≤ z.toInt ∧ z.toInt ≤ 0 ∧ (z.toInt = 0 → 0 ≤ x2.toInt ∧ x2.toInt ≤ 59)) (fX7_refusalAt_0 τ σ x1 x2) := by
  have hFU : ((FU : Nat) : Int) = 100000 := rfl
  unfold fX7_refusalAt_0
  refine ok_bi (sX7_isEmpty τ σ x1 hI (by omega) (by omega)) (fun r1 hr1 => ?_)
  obtain ⟨p2, p3⟩ := hr1
  have p2 : 0 ≤ r1.toInt := p2
  have p3 : r1.toInt ≤ 1 := p3
  have : (0 : Int32).toInt = 0 := by decide
  refine ok_eq (fun h4 => ?_) (fun h4 => ?_)
  · refine ok_bi (sX7_isRow τ σ x1 hI (by omega) (by omega)) (fun r3 hr5 => ?_)
    obtain ⟨p6, p7⟩ := hr5
    have p6 : 0 ≤ r3.toInt := p6
    have p7 : r3.toInt ≤ 1 := p7
    refine ok_eq (fun h8 => ?_) (fun h8 => ?_)
    · have : ((-12) : Int32).toInt = (-12) := by decide
      exact ok_some ⟨by show (-13) ≤ ((-12) : Int32).toInt; omega, by show ((-12) : Int32).toInt ≤ 0; omega, by show ((-12) : Int32).toInt = 0 → 0 ≤ x2.toInt ∧ x2.toInt ≤ 59; omega⟩
    · have := i32_rng x2
      refine ok_lt (fun h9 => ?_) (fun h9 => ?_)
      · have : ((-13) : Int32).toInt = (-13) := by decide
        exact ok_some ⟨by show (-13) ≤ ((-13) : Int32).toInt; omega, by show ((-13) : Int32).toInt ≤ 0; omega, by show ((-13) : Int32).toInt = 0 → 0 ≤ x2.toInt ∧ x2.toInt ≤ 59; omega⟩
      · refine ok_ck (by omega) (by omega) ?_
        have : 0 ≤ (σ.1 40 (Int32.toNatClampNeg x1)).toInt ∧ (σ.1 40 (Int32.toNatClampNeg x1)).toInt ≤ 60 := hI.1 40 (Int32.toNatClampNeg x1)
        refine ok_nmI (fun v5 hv5 he10 => ?_)
        refine ok_le (fun h11 => ?_) (fun h11 => ?_)
        · have : ((-13) : Int32).toInt = (-13) := by decide
          exact ok_some ⟨by show (-13) ≤ ((-13) : Int32).toInt; omega, by show ((-13) : Int32).toInt ≤ 0; omega, by show ((-13) : Int32).toInt = 0 → 0 ≤ x2.toInt ∧ x2.toInt ≤ 59; omega⟩
        · exact ok_some ⟨by show (-13) ≤ (0 : Int32).toInt; omega, by show (0 : Int32).toInt ≤ 0; omega, by show (0 : Int32).toInt = 0 → 0 ≤ x2.toInt ∧ x2.toInt ≤ 59; omega⟩
  · have : ((-11) : Int32).toInt = (-11) := by decide
    exact ok_some ⟨by show (-13) ≤ ((-11) : Int32).toInt; omega, by show ((-11) : Int32).toInt ≤ 0; omega, by show ((-11) : Int32).toInt = 0 → 0 ≤ x2.toInt ∧ x2.toInt ≤ 59; omega⟩

theorem sX7_refusalAt (τ : Nat) (σ : S2) (a1 : Int32) (a2 : Int32) (hI : IvC 0 τ σ) (p9000 : 0 ≤ a1.toInt) (p9001 : a1.toInt ≤ 5)  : Ok (fun z => (-13) ≤ z.toInt ∧ z.toInt ≤ 0 ∧ (z.toInt = 0 → 0 ≤ a2.toInt ∧ a2.toInt ≤ 59)) (fX7_refusalAt τ σ a1 a2) := by
  unfold fX7_refusalAt
  exact sX7_refusalAt_0 τ σ a1 a2 hI (by assumption) (by assumption)

theorem sX7_spans_0 (τ : Nat) (σ : S2) (x1 : Int32) (x2 : Int32) (x3 : Int32) (hI : IvC 0 τ σ) (p9000 : 0 ≤ x1.toInt) (p9001 : x1.toInt ≤ 5)  : Ok (fun z => 0 ≤ z.toInt ∧ z.toInt ≤ 1 ∧ (z.toInt ≠ 0 → 0 ≤ x2.toInt ∧ 0 ≤ x3.toInt ∧ x2.toInt + x3.toInt ≤ 60)) (fX7_spans_0 τ σ x1 x2 x3) := by
  have hFU : ((FU : Nat) : Int) = 100000 := rfl
  unfold fX7_spans_0
  have := i32_rng x2
  have : (0 : Int32).toInt = 0 := by decide
  refine ok_lt (fun h1 => ?_) (fun h1 => ?_)
  · exact ok_some ⟨by show 0 ≤ (0 : Int32).toInt; omega, by show (0 : Int32).toInt ≤ 1; omega, by show (0 : Int32).toInt ≠ 0 → 0 ≤ x2.toInt ∧ 0 ≤ x3.toInt ∧ x2.toInt + x3.toInt ≤ 60; omega⟩
  · have := i32_rng x3
    refine ok_lt (fun h2 => ?_) (fun h2 => ?_)
    · exact ok_some ⟨by show 0 ≤ (0 : Int32).toInt; omega, by show (0 : Int32).toInt ≤ 1; omega, by show (0 : Int32).toInt ≠ 0 → 0 ≤ x2.toInt ∧ 0 ≤ x3.toInt ∧ x2.toInt + x3.toInt ≤ 60; omega⟩
    · refine ok_ck (by omega) (by omega) ?_
      have : 0 ≤ (σ.1 40 (Int32.toNatClampNeg x1)).toInt ∧ (σ.1 40 (Int32.toNatClampNeg x1)).toInt ≤ 60 := hI.1 40 (Int32.toNatClampNeg x1)
      refine ok_nmI (fun v1 hv1 he3 => ?_)
      refine ok_lt (fun h4 => ?_) (fun h4 => ?_)
      · exact ok_some ⟨by show 0 ≤ (0 : Int32).toInt; omega, by show (0 : Int32).toInt ≤ 1; omega, by show (0 : Int32).toInt ≠ 0 → 0 ≤ x2.toInt ∧ 0 ≤ x3.toInt ∧ x2.toInt + x3.toInt ≤ 60; omega⟩
      · refine ok_ck (by omega) (by omega) ?_
        refine ok_nmI (fun v2 hv2 he5 => ?_)
        have : ((v2 - x2) : Int32).toInt = (v2 : Int32).toInt - (x2 : Int32).toInt := i32_sub (by omega) (by omega)
        refine ok_lt (fun h6 => ?_) (fun h6 => ?_)
        · exact ok_some ⟨by show 0 ≤ (0 : Int32).toInt; omega, by show (0 : Int32).toInt ≤ 1; omega, by show (0 : Int32).toInt ≠ 0 → 0 ≤ x2.toInt ∧ 0 ≤ x3.toInt ∧ x2.toInt + x3.toInt ≤ 60; omega⟩
        · have : (1 : Int32).toInt = 1 := by decide
          exact ok_some ⟨by show 0 ≤ (1 : Int32).toInt; omega, by show (1 : Int32).toInt ≤ 1; omega, by show (1 : Int32).toInt ≠ 0 → 0 ≤ x2.toInt ∧ 0 ≤ x3.toInt ∧ x2.toInt + x3.toInt ≤ 60; omega⟩

theorem sX7_spans (τ : Nat) (σ : S2) (a1 : Int32) (a2 : Int32) (a3 : Int32) (hI : IvC 0 τ σ) (p9000 : 0 ≤ a1.toInt) (p9001 : a1.toInt ≤ 5)  : Ok (fun z => 0 ≤ z.toInt ∧ z.toInt ≤ 1 ∧ (z.toInt ≠ 0 → 0 ≤ a2.toInt ∧ 0 ≤ a3.toInt ∧ a2.toInt + a3.toInt ≤ 60)) (fX7_spans τ σ a1 a2 a3) := by
  unfold fX7_spans
  exact sX7_spans_0 τ σ a1 a2 a3 hI (by assumption) (by assumption)

theorem sX7_lowest_0 (τ : Nat) (σ : S2) (x0 : Int32) (x1 : Int64) (hI : IvC 0 τ σ) (p9000 : (-1) ≤ x0.toInt) (p9001 : x0.toInt ≤ 4)  : Ok (fun z => True) (fX7_lowest_0 τ σ x0 x1) := by
  have hFU : ((FU : Nat) : Int) = 100000 := rfl
  unfold fX7_lowest_0
  have : (0 : Int32).toInt = 0 := by decide
  refine ok_eq (fun h1 => ?_) (fun h1 => ?_)
  · exact ok_some trivial
  · have : (1 : Int32).toInt = 1 := by decide
    refine ok_eq (fun h2 => ?_) (fun h2 => ?_)
    · exact ok_some trivial
    · have : (2 : Int32).toInt = 2 := by decide
      refine ok_eq (fun h3 => ?_) (fun h3 => ?_)
      · exact ok_some trivial
      · have : (3 : Int32).toInt = 3 := by decide
        refine ok_eq (fun h4 => ?_) (fun h4 => ?_)
        · exact ok_some trivial
        · have : (4 : Int32).toInt = 4 := by decide
          refine ok_eq (fun h5 => ?_) (fun h5 => ?_)
          · have := i32_rng (lg_cmp x1 0)
            refine ok_eq (fun h6 => ?_) (fun h6 => ?_)
            · exact ok_some trivial
            · exact ok_some trivial
          · exact ok_some trivial

theorem sX7_lowest (τ : Nat) (σ : S2) (a0 : Int32) (a1 : Int64) (hI : IvC 0 τ σ) (p9000 : (-1) ≤ a0.toInt) (p9001 : a0.toInt ≤ 4)  : Ok (fun z => True) (fX7_lowest τ σ a0 a1) := by
  unfold fX7_lowest
  exact sX7_lowest_0 τ σ a0 a1 hI (by assumption) (by assumption)

theorem sX8_takeMembers_36 (τ : Nat) (b0 : Nat) (k7 : S2 → Int32 → Int32 → Option (Unit × S2)) (σ : S2) (x1 : Int32) (x3 : Int32) (s0 : Int32) (s1 : Int32) (hI : IvC 0 τ σ) (p9000 : 0 ≤ x3.toInt) (p9001 : x3.toInt ≤ 11) (p9002 : 0 ≤ s0.toInt) (p9003 : s0.toInt ≤ 16) (p9004 : 0 ≤ s1.toInt) (p9005 : s1.toInt ≤ 11) (hk7 : ∀ (y0 : S2) (y1 : Int32) (y2 : Int32), IvC 0 τ y0 → 0 ≤ y2.toInt → y2.toInt ≤ 12 → x3.toInt + 1 ≤ y2.toInt → Ok (fun z => IvC 0 τ z.2) (k7 y0 y1 y2)) : Ok (fun z => IvC 0 τ z.2) (fX8_takeMembers_36 τ b0 k7 σ x1 x3 s0 s1) := by
  have hFU : ((FU : Nat) : Int) = 100000 := rfl
  unfold fX8_takeMembers_36
  refine ok_ck (by omega) (by omega) ?_
  refine ok_nm (fun σ1 hs1 => ?_)
  have hI2 : IvC 0 τ σ1 := by rw [hs1]; exact IvC.wT (b := b0) (j := 1) hI (by decide) (by decide) (show 0 ≤ (s0 : Int32).toInt by omega) (show (s0 : Int32).toInt ≤ 16 by omega)
  have : (1 : Int32).toInt = 1 := by decide
  have : ((x3 + 1) : Int32).toInt = (x3 : Int32).toInt + (1 : Int32).toInt := i32_add (by omega) (by omega)
  refine ok_nmI (fun v2 hv2 he3 => ?_)
  have := i32_rng x1
  exact hk7 σ1 x1 v2 hI2 (by omega) (by omega) (by omega)

theorem sX8_takeMembers_7 (τ : Nat) (b0 : Nat) : ∀ (n : Nat) (σ : S2) (x1 : Int32) (x3 : Int32), IvC 0 τ σ → 0 ≤ x3.toInt → x3.toInt ≤ 12 → 12 - x3.toInt < (n : Int) → Ok (fun z => IvC 0 τ z.2) (fX8_takeMembers_7 τ b0 n σ x1 x3) := by
  have hFU : ((FU : Nat) : Int) = 100000 := rfl
  intro n
  induction n with
  | zero => intro σ x1 x3 hI p9000 p9001 hm; exfalso; omega
  | succ n ih =>
    intro σ x1 x3 hI p9000 p9001 hm
    unfold fX8_takeMembers_7
    have : (12 : Int32).toInt = 12 := by decide
    refine ok_le (fun h1 => ?_) (fun h1 => ?_)
    · exact ok_some hI
    · have := i32_rng x1
      have : (31 : Int32).toInt = 31 := by decide
      have := i32_andR (a := x3) (m := 31) (by omega)
      have := i32_andL (a := x3) (m := 31) (by omega)
      have := i32_rng (x1 >>> (x3 &&& 31))
      have : (1 : Int32).toInt = 1 := by decide
      have := i32_andR (a := (x1 >>> (x3 &&& 31))) (m := 1) (by omega)
      refine ok_eq (fun h2 => ?_) (fun h2 => ?_)
      · refine ok_bi (sX2_counting τ σ x3 hI (by omega) (by omega)) (fun r3 hr3 => ?_)
        obtain ⟨p4, p5⟩ := hr3
        have p4 : 0 ≤ r3.toInt := p4
        have p5 : r3.toInt ≤ 16 := p5
        exact sX8_takeMembers_36 τ b0 (fX8_takeMembers_7 τ b0 n) σ x1 x3 r3 x3 hI (by omega) (by omega) (by omega) (by omega) (by omega) (by omega) (fun y0 y1 y2 q0 q1 q2 q3 => ih y0 y1 y2 q0 q1 q2 (by omega))
      · have : (0 : Int32).toInt = 0 := by decide
        exact sX8_takeMembers_36 τ b0 (fX8_takeMembers_7 τ b0 n) σ x1 x3 0 x3 hI (by omega) (by omega) (by omega) (by omega) (by omega) (by omega) (fun y0 y1 y2 q0 q1 q2 q3 => ih y0 y1 y2 q0 q1 q2 (by omega))

theorem sX8_takeMembers_0 (τ : Nat) (b0 : Nat) (σ : S2) (x1 : Int32) (hI : IvC 0 τ σ)   : Ok (fun z => IvC 0 τ z.2) (fX8_takeMembers_0 τ b0 σ x1) := by
  have hFU : ((FU : Nat) : Int) = 100000 := rfl
  unfold fX8_takeMembers_0
  have := i32_rng x1
  refine ok_nm (fun σ5 hs1 => ?_)
  have hI2 : IvC 0 τ σ5 := by rw [hs1]; exact IvC.wT0 (b := b0) hI (by decide) (i32_rng _).1 (i32_rng _).2
  have : (0 : Int32).toInt = 0 := by decide
  exact sX8_takeMembers_7 τ b0 FU σ5 x1 0 hI2 (by omega) (by omega) (by omega)

theorem sX8_takeMembers (τ : Nat) (b0 : Nat) (σ : S2) (a1 : Int32) (hI : IvC 0 τ σ)   : Ok (fun z => IvC 0 τ z.2) (fX8_takeMembers τ b0 σ a1) := by
  unfold fX8_takeMembers
  exact sX8_takeMembers_0 τ b0 σ a1 hI

theorem sX8_firstFor_70 (τ : Nat) (b0 : Nat) (k27 : S2 → Int32 → Int32 → Int32 → Int32 → Option Int32) (σ : S2) (x1 : Int32) (x2 : Int32) (x3 : Int32) (x4 : Int32) (hI : IvC 0 τ σ) (p9000 : 0 ≤ x1.toInt) (p9001 : x1.toInt ≤ 999) (p9002 : (-1) ≤ x2.toInt) (p9003 : x2.toInt ≤ 11) (p9004 : (-1) ≤ x3.toInt) (p9005 : x3.toInt ≤ 15984) (p9006 : 0 ≤ x4.toInt) (p9007 : x4.toInt ≤ 11) (hk27 : ∀ (y0 : S2) (y1 : Int32) (y2 : Int32) (y3 : Int32) (y4 : Int32), IvC 0 τ y0 → 0 ≤ y1.toInt → y1.toInt ≤ 999 → (-1) ≤ y2.toInt → y2.toInt ≤ 11 → (-1) ≤ y3.toInt → y3.toInt ≤ 15984 → 0 ≤ y4.toInt → y4.toInt ≤ 12 → x4.toInt + 1 ≤ y4.toInt → Ok (fun z => (-1) ≤ z.toInt ∧ z.toInt ≤ 11) (k27 y0 y1 y2 y3 y4)) : Ok (fun z => (-1) ≤ z.toInt ∧ z.toInt ≤ 11) (fX8_firstFor_70 τ b0 k27 σ x1 x2 x3 x4) := by
  have hFU : ((FU : Nat) : Int) = 100000 := rfl
  unfold fX8_firstFor_70
  have : (1 : Int32).toInt = 1 := by decide
  have : ((x4 + 1) : Int32).toInt = (x4 : Int32).toInt + (1 : Int32).toInt := i32_add (by omega) (by omega)
  refine ok_nmI (fun v1 hv1 he1 => ?_)
  exact hk27 σ x1 x2 x3 v1 hI (by omega) (by omega) (by omega) (by omega) (by omega) (by omega) (by omega) (by omega) (by omega)

theorem sX8_firstFor_27 (τ : Nat) (b0 : Nat) : ∀ (n : Nat) (σ : S2) (x1 : Int32) (x2 : Int32) (x3 : Int32) (x4 : Int32), IvC 0 τ σ → 0 ≤ x1.toInt → x1.toInt ≤ 999 → (-1) ≤ x2.toInt → x2.toInt ≤ 11 → (-1) ≤ x3.toInt → x3.toInt ≤ 15984 → 0 ≤ x4.toInt → x4.toInt ≤ 12 → 12 - x4.toInt < (n : Int) → Ok (fun z => (-1) ≤ z.toInt ∧ z.toInt ≤ 11) (fX8_firstFor_27 τ b0 n σ x1 x2 x3 x4) := by
  have hFU : ((FU : Nat) : Int) = 100000 := rfl
  intro n
  induction n with
  | zero => intro σ x1 x2 x3 x4 hI p9000 p9001 p9002 p9003 p9004 p9005 p9006 p9007 hm; exfalso; omega
  | succ n ih =>
    intro σ x1 x2 x3 x4 hI p9000 p9001 p9002 p9003 p9004 p9005 p9006 p9007 hm
    unfold fX8_firstFor_27
    have : (12 : Int32).toInt = 12 := by decide
    refine ok_le (fun h1 => ?_) (fun h1 => ?_)
    · exact ok_some ⟨by show (-1) ≤ x2.toInt; omega, by show x2.toInt ≤ 11; omega⟩
    · have := i32_rng (σ.1 (182 + (6 * b0)) 0)
      have : (31 : Int32).toInt = 31 := by decide
      have := i32_andR (a := x4) (m := 31) (by omega)
      have := i32_andL (a := x4) (m := 31) (by omega)
      have := i32_rng ((σ.1 (182 + (6 * b0)) 0) >>> (x4 &&& 31))
      have : (1 : Int32).toInt = 1 := by decide
      have := i32_andR (a := ((σ.1 (182 + (6 * b0)) 0) >>> (x4 &&& 31))) (m := 1) (by omega)
      have : (0 : Int32).toInt = 0 := by decide
      refine ok_eq (fun h2 => ?_) (fun h2 => ?_)
      · exact sX8_firstFor_70 τ b0 (fX8_firstFor_27 τ b0 n) σ x1 x2 x3 x4 hI (by omega) (by omega) (by omega) (by omega) (by omega) (by omega) (by omega) (by omega) (fun y0 y1 y2 y3 y4 q0 q1 q2 q3 q4 q5 q6 q7 q8 q9 => ih y0 y1 y2 y3 y4 q0 q1 q2 q3 q4 q5 q6 q7 q8 (by omega))
      · refine ok_bi (sX8_sumOf τ b0 σ x4 x1 hI (by omega) (by omega) (by omega) (by omega)) (fun r2 hr3 => ?_)
        obtain ⟨p4, p5⟩ := hr3
        have p4 : 0 ≤ r2.toInt := p4
        have p5 : r2.toInt ≤ 15984 := p5
        refine ok_le (fun h6 => ?_) (fun h6 => ?_)
        · exact sX8_firstFor_70 τ b0 (fX8_firstFor_27 τ b0 n) σ x1 x2 x3 x4 hI (by omega) (by omega) (by omega) (by omega) (by omega) (by omega) (by omega) (by omega) (fun y0 y1 y2 y3 y4 q0 q1 q2 q3 q4 q5 q6 q7 q8 q9 => ih y0 y1 y2 y3 y4 q0 q1 q2 q3 q4 q5 q6 q7 q8 (by omega))
        · exact sX8_firstFor_70 τ b0 (fX8_firstFor_27 τ b0 n) σ x1 x4 r2 x4 hI (by omega) (by omega) (by omega) (by omega) (by omega) (by omega) (by omega) (by omega) (fun y0 y1 y2 y3 y4 q0 q1 q2 q3 q4 q5 q6 q7 q8 q9 => ih y0 y1 y2 y3 y4 q0 q1 q2 q3 q4 q5 q6 q7 q8 (by omega))

theorem sX8_firstFor_0 (τ : Nat) (b0 : Nat) (σ : S2) (x1 : Int32) (hI : IvC 0 τ σ) (p9000 : 0 ≤ x1.toInt) (p9001 : x1.toInt ≤ 999)  : Ok (fun z => (-1) ≤ z.toInt ∧ z.toInt ≤ 11) (fX8_firstFor_0 τ b0 σ x1) := by
  have hFU : ((FU : Nat) : Int) = 100000 := rfl
  unfold fX8_firstFor_0
  have : 0 ≤ (σ.1 (182 + (6 * b0)) 4).toInt ∧ (σ.1 (182 + (6 * b0)) 4).toInt ≤ 2 := hI.1.t0 b0 4
  have : (1 : Int32).toInt = 1 := by decide
  refine ok_eq (fun h1 => ?_) (fun h1 => ?_)
  · have : ((-1) : Int32).toInt = (-1) := by decide
    have : (0 : Int32).toInt = 0 := by decide
    exact sX8_firstFor_27 τ b0 FU σ x1 (-1) (-1) 0 hI (by omega) (by omega) (by omega) (by omega) (by omega) (by omega) (by omega) (by omega) (by omega)
  · refine ok_ck (by omega) (by omega) ?_
    have : 0 ≤ (σ.1 ((182 + (6 * b0)) + 5) (Int32.toNatClampNeg x1)).toInt ∧ (σ.1 ((182 + (6 * b0)) + 5) (Int32.toNatClampNeg x1)).toInt ≤ 999 := hI.1.t b0 5 (Int32.toNatClampNeg x1) (by decide)
    refine ok_nmI (fun v4 hv4 he2 => ?_)
    refine ok_ck (by omega) (by omega) ?_
    have : (-1) ≤ (σ.1 ((182 + (6 * b0)) + 4) (Int32.toNatClampNeg v4)).toInt ∧ (σ.1 ((182 + (6 * b0)) + 4) (Int32.toNatClampNeg v4)).toInt ≤ 11 := hI.1.t b0 4 (Int32.toNatClampNeg v4) (by decide)
    refine ok_nmI (fun v5 hv5 he3 => ?_)
    exact ok_some ⟨by show (-1) ≤ v5.toInt; omega, by show v5.toInt ≤ 11; omega⟩

theorem sX8_firstFor (τ : Nat) (b0 : Nat) (σ : S2) (a1 : Int32) (hI : IvC 0 τ σ) (p9000 : 0 ≤ a1.toInt) (p9001 : a1.toInt ≤ 999)  : Ok (fun z => (-1) ≤ z.toInt ∧ z.toInt ≤ 11) (fX8_firstFor τ b0 σ a1) := by
  unfold fX8_firstFor
  exact sX8_firstFor_0 τ b0 σ a1 hI (by assumption) (by assumption)

theorem sX8_countOdds_51 (τ : Nat) (b0 : Nat) (k18 : S2 → Int32 → Option (Unit × S2)) (σ : S2) (x1 : Int32) (hI : IvC 0 τ σ) (p9000 : 0 ≤ x1.toInt) (p9001 : x1.toInt ≤ 999) (hk18 : ∀ (y0 : S2) (y1 : Int32), IvC 0 τ y0 → 0 ≤ y1.toInt → y1.toInt ≤ 1000 → x1.toInt + 1 ≤ y1.toInt → Ok (fun z => IvC 0 τ z.2) (k18 y0 y1)) : Ok (fun z => IvC 0 τ z.2) (fX8_countOdds_51 τ b0 k18 σ x1) := by
  have hFU : ((FU : Nat) : Int) = 100000 := rfl
  unfold fX8_countOdds_51
  have : (1 : Int32).toInt = 1 := by decide
  have : ((x1 + 1) : Int32).toInt = (x1 : Int32).toInt + (1 : Int32).toInt := i32_add (by omega) (by omega)
  refine ok_nmI (fun v1 hv1 he1 => ?_)
  exact hk18 σ v1 hI (by omega) (by omega) (by omega)

theorem sX8_countOdds_18 (τ : Nat) (b0 : Nat) : ∀ (n : Nat) (σ : S2) (x1 : Int32), IvC 0 τ σ → 0 ≤ x1.toInt → x1.toInt ≤ 1000 → 1000 - x1.toInt < (n : Int) → Ok (fun z => IvC 0 τ z.2) (fX8_countOdds_18 τ b0 n σ x1) := by
  have hFU : ((FU : Nat) : Int) = 100000 := rfl
  intro n
  induction n with
  | zero => intro σ x1 hI p9000 p9001 hm; exfalso; omega
  | succ n ih =>
    intro σ x1 hI p9000 p9001 hm
    unfold fX8_countOdds_18
    have : (1000 : Int32).toInt = 1000 := by decide
    refine ok_le (fun h1 => ?_) (fun h1 => ?_)
    · have : (1 : Int32).toInt = 1 := by decide
      refine ok_nm (fun σ2 hs2 => ?_)
      have hI3 : IvC 0 τ σ2 := by rw [hs2]; exact IvC.wT0 (b := b0) hI (by decide) (show 0 ≤ (1 : Int32).toInt by omega) (show (1 : Int32).toInt ≤ 1 by omega)
      exact ok_some hI3
    · refine ok_bi (sX8_firstFor τ b0 σ x1 hI (by omega) (by omega)) (fun r3 hr4 => ?_)
      obtain ⟨p5, p6⟩ := hr4
      have p5 : (-1) ≤ r3.toInt := p5
      have p6 : r3.toInt ≤ 11 := p6
      have : (0 : Int32).toInt = 0 := by decide
      refine ok_lt (fun h7 => ?_) (fun h7 => ?_)
      · exact sX8_countOdds_51 τ b0 (fX8_countOdds_18 τ b0 n) σ x1 hI (by omega) (by omega) (fun y0 y1 q0 q1 q2 q3 => ih y0 y1 q0 q1 q2 (by omega))
      · have : (12 : Int32).toInt = 12 := by decide
        refine ok_le (fun h8 => ?_) (fun h8 => ?_)
        · exfalso; omega
        · refine ok_ck (by omega) (by omega) ?_
          have := i32_rng (σ.1 ((182 + (6 * b0)) + 2) (Int32.toNatClampNeg r3))
          refine ok_nmI (fun v5 hv5 he9 => ?_)
          refine ok_ck (by omega) (by omega) ?_
          have := i32_rng v5
          have : (1 : Int32).toInt = 1 := by decide
          have := i32_rng (v5 + 1)
          refine ok_nm (fun σ6 hs10 => ?_)
          have hI11 : IvC 0 τ σ6 := by rw [hs10]; exact IvC.wT (b := b0) (j := 2) hI (by decide) (by decide) (i32_rng _).1 (i32_rng _).2
          exact sX8_countOdds_51 τ b0 (fX8_countOdds_18 τ b0 n) σ6 x1 hI11 (by omega) (by omega) (fun y0 y1 q0 q1 q2 q3 => ih y0 y1 q0 q1 q2 (by omega))

theorem sX8_countOdds_0 (τ : Nat) (b0 : Nat) (σ : S2) (hI : IvC 0 τ σ)   : Ok (fun z => IvC 0 τ z.2) (fX8_countOdds_0 τ b0 σ) := by
  have hFU : ((FU : Nat) : Int) = 100000 := rfl
  unfold fX8_countOdds_0
  have : 0 ≤ (σ.1 (182 + (6 * b0)) 7).toInt ∧ (σ.1 (182 + (6 * b0)) 7).toInt ≤ 1 := hI.1.t0 b0 7
  have : (0 : Int32).toInt = 0 := by decide
  refine ok_eq (fun h1 => ?_) (fun h1 => ?_)
  · refine ok_bs (sJ7_fill_53178 τ ((182 + (6 * b0)) + 2) 12 σ 0 hI (by omega) (by omega) (by first | assumption | exact KeM.rf _ | exact FlC.t2) (by omega)) (fun r7 σ8 hr2 => ?_)
    have hr2 : IvC 0 τ σ8 := hr2
    exact sX8_countOdds_18 τ b0 FU σ8 0 hr2 (by omega) (by omega) (by omega)
  · exact ok_some hI

theorem sX8_countOdds (τ : Nat) (b0 : Nat) (σ : S2) (hI : IvC 0 τ σ)   : Ok (fun z => IvC 0 τ z.2) (fX8_countOdds τ b0 σ) := by
  unfold fX8_countOdds
  exact sX8_countOdds_0 τ b0 σ hI

theorem sX8_unevenness_54 (τ : Nat) (b0 : Nat) (k12 : S2 → Int32 → Int32 → Int32 → Option (Int32 × S2)) (σ : S2) (x1 : Int32) (x2 : Int32) (x3 : Int32) (hI : IvC 0 τ σ) (p9000 : x1.toInt ≤ 1000) (p9001 : 0 ≤ x2.toInt) (p9002 : 0 ≤ x3.toInt) (p9003 : x3.toInt ≤ 11) (hk12 : ∀ (y0 : S2) (y1 : Int32) (y2 : Int32) (y3 : Int32), IvC 0 τ y0 → y1.toInt ≤ 1000 → 0 ≤ y2.toInt → 0 ≤ y3.toInt → y3.toInt ≤ 12 → x3.toInt + 1 ≤ y3.toInt → Ok (fun z => IvC 0 τ z.2) (k12 y0 y1 y2 y3)) : Ok (fun z => IvC 0 τ z.2) (fX8_unevenness_54 τ b0 k12 σ x1 x2 x3) := by
  have hFU : ((FU : Nat) : Int) = 100000 := rfl
  unfold fX8_unevenness_54
  have : (1 : Int32).toInt = 1 := by decide
  have : ((x3 + 1) : Int32).toInt = (x3 : Int32).toInt + (1 : Int32).toInt := i32_add (by omega) (by omega)
  refine ok_nmI (fun v1 hv1 he1 => ?_)
  have := i32_rng x1
  have := i32_rng x2
  exact hk12 σ x1 x2 v1 hI (by omega) (by omega) (by omega) (by omega) (by omega)

theorem sX8_unevenness_12 (τ : Nat) (b0 : Nat) : ∀ (n : Nat) (σ : S2) (x1 : Int32) (x2 : Int32) (x3 : Int32), IvC 0 τ σ → x1.toInt ≤ 1000 → 0 ≤ x2.toInt → 0 ≤ x3.toInt → x3.toInt ≤ 12 → 12 - x3.toInt < (n : Int) → Ok (fun z => IvC 0 τ z.2) (fX8_unevenness_12 τ b0 n σ x1 x2 x3) := by
  have hFU : ((FU : Nat) : Int) = 100000 := rfl
  intro n
  induction n with
  | zero => intro σ x1 x2 x3 hI p9000 p9001 p9002 p9003 hm; exfalso; omega
  | succ n ih =>
    intro σ x1 x2 x3 hI p9000 p9001 p9002 p9003 hm
    unfold fX8_unevenness_12
    have : (12 : Int32).toInt = 12 := by decide
    refine ok_le (fun h1 => ?_) (fun h1 => ?_)
    · have := i32_rng x2
      have := i32_rng x1
      have := i32_rng (x2 - x1)
      exact ok_some hI
    · have := i32_rng (σ.1 (182 + (6 * b0)) 0)
      have : (31 : Int32).toInt = 31 := by decide
      have := i32_andR (a := x3) (m := 31) (by omega)
      have := i32_andL (a := x3) (m := 31) (by omega)
      have := i32_rng ((σ.1 (182 + (6 * b0)) 0) >>> (x3 &&& 31))
      have : (1 : Int32).toInt = 1 := by decide
      have := i32_andR (a := ((σ.1 (182 + (6 * b0)) 0) >>> (x3 &&& 31))) (m := 1) (by omega)
      have : (0 : Int32).toInt = 0 := by decide
      refine ok_eq (fun h2 => ?_) (fun h2 => ?_)
      · have := i32_rng x1
        have := i32_rng x2
        exact sX8_unevenness_54 τ b0 (fX8_unevenness_12 τ b0 n) σ x1 x2 x3 hI (by omega) (by omega) (by omega) (by omega) (fun y0 y1 y2 y3 q0 q1 q2 q3 q4 q5 => ih y0 y1 y2 y3 q0 q1 q2 q3 q4 (by omega))
      · refine ok_ck (by omega) (by omega) ?_
        have := i32_rng (σ.1 ((182 + (6 * b0)) + 2) (Int32.toNatClampNeg x3))
        refine ok_nmI (fun v2 hv2 he3 => ?_)
        have := i32_rng v2
        have := i32_rng x1
        have := i32_iflt v2 x1 v2 x1
        refine ok_nmI (fun v3 hv3 he4 => ?_)
        refine ok_ck (by omega) (by omega) ?_
        refine ok_nmI (fun v4 hv4 he5 => ?_)
        have := i32_rng x2
        have := i32_rng v4
        have := i32_iflt x2 v4 v4 x2
        refine ok_nmI (fun v5 hv5 he6 => ?_)
        have := i32_rng v3
        have := i32_rng v5
        exact sX8_unevenness_54 τ b0 (fX8_unevenness_12 τ b0 n) σ v3 v5 x3 hI (by omega) (by omega) (by omega) (by omega) (fun y0 y1 y2 y3 q0 q1 q2 q3 q4 q5 => ih y0 y1 y2 y3 q0 q1 q2 q3 q4 (by omega))

theorem sX8_unevenness_0 (τ : Nat) (b0 : Nat) (σ : S2) (hI : IvC 0 τ σ)   : Ok (fun z => IvC 0 τ z.2) (fX8_unevenness_0 τ b0 σ) := by
  have hFU : ((FU : Nat) : Int) = 100000 := rfl
  unfold fX8_unevenness_0
  refine ok_bs (sX8_countOdds τ b0 σ hI) (fun r6 σ7 hr1 => ?_)
  have hr1 : IvC 0 τ σ7 := hr1
  have : (1000 : Int32).toInt = 1000 := by decide
  have : (0 : Int32).toInt = 0 := by decide
  exact sX8_unevenness_12 τ b0 FU σ7 1000 0 0 hr1 (by omega) (by omega) (by omega) (by omega) (by omega)

theorem sX8_unevenness (τ : Nat) (b0 : Nat) (σ : S2) (hI : IvC 0 τ σ)   : Ok (fun z => IvC 0 τ z.2) (fX8_unevenness τ b0 σ) := by
  unfold fX8_unevenness
  exact sX8_unevenness_0 τ b0 σ hI

theorem sX8_alikeIn_41 (τ : Nat) (b0 : Nat) (b1 : Nat) (k12 : S2 → Int32 → Int32 → Option Int32) (σ : S2) (x2 : Int32) (x3 : Int32) (hI : IvC 0 τ σ) (p9000 : 0 ≤ x3.toInt) (p9001 : x3.toInt ≤ 11) (hk12 : ∀ (y0 : S2) (y1 : Int32) (y2 : Int32), IvC 0 τ y0 → 0 ≤ y2.toInt → y2.toInt ≤ 12 → x3.toInt + 1 ≤ y2.toInt → Ok (fun z => True) (k12 y0 y1 y2)) : Ok (fun z => True) (fX8_alikeIn_41 τ b0 b1 k12 σ x2 x3) := by
  have hFU : ((FU : Nat) : Int) = 100000 := rfl
  unfold fX8_alikeIn_41
  have : (1 : Int32).toInt = 1 := by decide
  have : ((x3 + 1) : Int32).toInt = (x3 : Int32).toInt + (1 : Int32).toInt := i32_add (by omega) (by omega)
  refine ok_nmI (fun v1 hv1 he1 => ?_)
  have := i32_rng x2
  exact hk12 σ x2 v1 hI (by omega) (by omega) (by omega)

