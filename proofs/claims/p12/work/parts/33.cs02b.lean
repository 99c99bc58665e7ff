theorem sX6_filled_10 (τ : Nat) (c0 : Nat) (n0 : Nat) : ∀ (n : Nat) (σ : S2) (x1 : Int32) (x3 : Int32) (x4 : Int32), IvC 0 τ σ → 0 ≤ x3.toInt → x3.toInt ≤ 1000 → 0 ≤ x4.toInt → x4.toInt ≤ 1000 → (n0 : Int) ≤ 1000 → x3.toInt ≤ (n0 : Int) → 1000 - x4.toInt < (n : Int) → Ok (fun z => True) (fX6_filled_10 τ c0 n0 n σ x1 x3 x4) := by
  have hFU : ((FU : Nat) : Int) = 100000 := rfl
  intro n
  induction n with
  | zero => intro σ x1 x3 x4 hI p9000 p9001 p9002 p9003 p9004 p9005 hm; exfalso; omega
  | succ n ih =>
    intro σ x1 x3 x4 hI p9000 p9001 p9002 p9003 p9004 p9005 hm
    unfold fX6_filled_10
    refine ok_le (fun h1 => ?_) (fun h1 => ?_)
    · have := i32_rng x1
      exact ok_some trivial
    · refine ok_ck (by omega) (by omega) ?_
      have := i32_rng (σ.1 c0 (Int32.toNatClampNeg x4))
      refine ok_nmI (fun v2 hv2 he2 => ?_)
      have := i32_rng v2
      have : (0 : Int32).toInt = 0 := by decide
      refine ok_le (fun h3 => ?_) (fun h3 => ?_)
      · have := i32_rng x1
        exact sX6_filled_30 τ c0 n0 (fX6_filled_10 τ c0 n0 n) σ x1 x3 x4 hI (by omega) (by omega) (by omega) (by omega) (by omega) (by omega) (fun y0 y1 y2 y3 q0 q1 q2 q3 q4 q5 q6 q7 => ih y0 y1 y2 y3 q0 q1 q2 q3 q4 q5 q6 (by omega))
      · have := i32_rng x1
        have : (1 : Int32).toInt = 1 := by decide
        have := i32_rng (x1 + 1)
        refine ok_nmI (fun v3 hv3 he4 => ?_)
        have := i32_rng v3
        exact sX6_filled_30 τ c0 n0 (fX6_filled_10 τ c0 n0 n) σ v3 x3 x4 hI (by omega) (by omega) (by omega) (by omega) (by omega) (by omega) (fun y0 y1 y2 y3 q0 q1 q2 q3 q4 q5 q6 q7 => ih y0 y1 y2 y3 q0 q1 q2 q3 q4 q5 q6 (by omega))

theorem sX6_filled_0 (τ : Nat) (c0 : Nat) (n0 : Nat) (σ : S2) (hI : IvC 0 τ σ) (p9000 : (n0 : Int) ≤ 1000)  : Ok (fun z => True) (fX6_filled_0 τ c0 n0 σ) := by
  have hFU : ((FU : Nat) : Int) = 100000 := rfl
  unfold fX6_filled_0
  have : ((Int32.ofNat n0) : Int32).toInt = (n0 : Int) := i32_ofNat (by omega)
  refine ok_nmI (fun v4 hv4 he1 => ?_)
  have : (0 : Int32).toInt = 0 := by decide
  exact sX6_filled_10 τ c0 n0 FU σ 0 v4 0 hI (by omega) (by omega) (by omega) (by omega) (by omega) (by omega) (by omega)

theorem sX6_filled (τ : Nat) (c0 : Nat) (n0 : Nat) (σ : S2) (hI : IvC 0 τ σ) (p9000 : (n0 : Int) ≤ 1000)  : Ok (fun z => True) (fX6_filled τ c0 n0 σ) := by
  unfold fX6_filled
  exact sX6_filled_0 τ c0 n0 σ hI (by assumption)

theorem sX6_copiesOn_0 (τ : Nat) (σ : S2) (x1 : Int32) (hI : IvC 0 τ σ) (p9000 : 0 ≤ x1.toInt) (p9001 : x1.toInt ≤ 11)  : Ok (fun z => True) (fX6_copiesOn_0 τ σ x1) := by
  have hFU : ((FU : Nat) : Int) = 100000 := rfl
  unfold fX6_copiesOn_0
  refine ok_ck (by omega) (by omega) ?_
  refine ok_bi (sX6_filled τ (84 + (Int32.toNatClampNeg x1)) 40 σ hI (by omega)) (fun r2 hr1 => ?_)
  have := i32_rng r2
  exact ok_some trivial

theorem sX6_copiesOn (τ : Nat) (σ : S2) (a1 : Int32) (hI : IvC 0 τ σ) (p9000 : 0 ≤ a1.toInt) (p9001 : a1.toInt ≤ 11)  : Ok (fun z => True) (fX6_copiesOn τ σ a1) := by
  unfold fX6_copiesOn
  exact sX6_copiesOn_0 τ σ a1 hI (by assumption) (by assumption)

theorem sX6_hasRoom_0 (τ : Nat) (σ : S2) (x1 : Int32) (x2 : Int32) (hI : IvC 0 τ σ) (p9000 : 0 ≤ x1.toInt) (p9001 : x1.toInt ≤ 11) (p9002 : 0 ≤ x2.toInt) (p9003 : x2.toInt ≤ 39)  : Ok (fun z => 0 ≤ z.toInt ∧ z.toInt ≤ 1) (fX6_hasRoom_0 τ σ x1 x2) := by
  have hFU : ((FU : Nat) : Int) = 100000 := rfl
  unfold fX6_hasRoom_0
  refine ok_ck (by omega) (by omega) ?_
  have : 0 ≤ (σ.1 8 (Int32.toNatClampNeg x1)).toInt ∧ (σ.1 8 (Int32.toNatClampNeg x1)).toInt ≤ 6 := hI.1 8 (Int32.toNatClampNeg x1)
  refine ok_nmI (fun v1 hv1 he1 => ?_)
  have : (6 : Int32).toInt = 6 := by decide
  refine ok_eq (fun h2 => ?_) (fun h2 => ?_)
  · refine ok_ck (by omega) (by omega) ?_
    refine ok_ck (by omega) (by omega) ?_
    have := i32_rng (σ.1 (84 + (Int32.toNatClampNeg x1)) (Int32.toNatClampNeg x2))
    refine ok_nmI (fun v3 hv3 he3 => ?_)
    have := i32_rng v3
    have : (0 : Int32).toInt = 0 := by decide
    refine ok_le (fun h4 => ?_) (fun h4 => ?_)
    · refine ok_bi (sX6_copiesOn τ σ x1 hI (by omega) (by omega)) (fun r4 hr5 => ?_)
      have : (8 : Int32).toInt = 8 := by decide
      have := i32_rng r4
      refine ok_le (fun h6 => ?_) (fun h6 => ?_)
      · exact ok_some ⟨by show 0 ≤ (0 : Int32).toInt; omega, by show (0 : Int32).toInt ≤ 1; omega⟩
      · have : (1 : Int32).toInt = 1 := by decide
        exact ok_some ⟨by show 0 ≤ (1 : Int32).toInt; omega, by show (1 : Int32).toInt ≤ 1; omega⟩
    · have : (1 : Int32).toInt = 1 := by decide
      exact ok_some ⟨by show 0 ≤ (1 : Int32).toInt; omega, by show (1 : Int32).toInt ≤ 1; omega⟩
  · have : (1 : Int32).toInt = 1 := by decide
    exact ok_some ⟨by show 0 ≤ (1 : Int32).toInt; omega, by show (1 : Int32).toInt ≤ 1; omega⟩

theorem sX6_hasRoom (τ : Nat) (σ : S2) (a1 : Int32) (a2 : Int32) (hI : IvC 0 τ σ) (p9000 : 0 ≤ a1.toInt) (p9001 : a1.toInt ≤ 11) (p9002 : 0 ≤ a2.toInt) (p9003 : a2.toInt ≤ 39)  : Ok (fun z => 0 ≤ z.toInt ∧ z.toInt ≤ 1) (fX6_hasRoom τ σ a1 a2) := by
  unfold fX6_hasRoom
  exact sX6_hasRoom_0 τ σ a1 a2 hI (by assumption) (by assumption) (by assumption) (by assumption)

theorem sX6_takesGreater_0 (τ : Nat) (σ : S2) (x1 : Int32) (x2 : Int32) (x3 : Int32) (hI : IvC 0 τ σ) (p9000 : 0 ≤ x1.toInt) (p9001 : x1.toInt ≤ 11) (p9002 : 0 ≤ x2.toInt) (p9003 : x2.toInt ≤ 39)  : Ok (fun z => IvC 0 τ z.2 ∧ 0 ≤ z.1.toInt ∧ z.1.toInt ≤ 1) (fX6_takesGreater_0 τ σ x1 x2 x3) := by
  have hFU : ((FU : Nat) : Int) = 100000 := rfl
  unfold fX6_takesGreater_0
  refine ok_ck (by omega) (by omega) ?_
  refine ok_ck (by omega) (by omega) ?_
  have := i32_rng (σ.1 (84 + (Int32.toNatClampNeg x1)) (Int32.toNatClampNeg x2))
  refine ok_nmI (fun v2 hv2 he1 => ?_)
  have := i32_rng v2
  have := i32_rng x3
  refine ok_lt (fun h2 => ?_) (fun h2 => ?_)
  · refine ok_ck (by omega) (by omega) ?_
    refine ok_ck (by omega) (by omega) ?_
    refine ok_nm (fun σ4 hs3 => ?_)
    have hI4 : IvC 0 τ σ4 := by rw [hs3]; exact IvC.wR1 hI (by have := i32_nat (i := x1) (by omega); omega) (i32_rng _).1 (i32_rng _).2
    have : (1 : Int32).toInt = 1 := by decide
    exact ok_some ⟨hI4, by show 0 ≤ (1 : Int32).toInt; omega, by show (1 : Int32).toInt ≤ 1; omega⟩
  · have : (0 : Int32).toInt = 0 := by decide
    exact ok_some ⟨hI, by show 0 ≤ (0 : Int32).toInt; omega, by show (0 : Int32).toInt ≤ 1; omega⟩

theorem sX6_takesGreater (τ : Nat) (σ : S2) (a1 : Int32) (a2 : Int32) (a3 : Int32) (hI : IvC 0 τ σ) (p9000 : 0 ≤ a1.toInt) (p9001 : a1.toInt ≤ 11) (p9002 : 0 ≤ a2.toInt) (p9003 : a2.toInt ≤ 39)  : Ok (fun z => IvC 0 τ z.2 ∧ 0 ≤ z.1.toInt ∧ z.1.toInt ≤ 1) (fX6_takesGreater τ σ a1 a2 a3) := by
  unfold fX6_takesGreater
  exact sX6_takesGreater_0 τ σ a1 a2 a3 hI (by assumption) (by assumption) (by assumption) (by assumption)

theorem sX6_receives_0 (τ : Nat) (σ : S2) (x1 : Int32) (x2 : Int32) (x3 : Int32) (hI : IvC 0 τ σ) (p9000 : 0 ≤ x1.toInt) (p9001 : x1.toInt ≤ 11) (p9002 : 0 ≤ x2.toInt) (p9003 : x2.toInt ≤ 39)  : Ok (fun z => IvC 0 τ z.2 ∧ 0 ≤ z.1.toInt ∧ z.1.toInt ≤ 1) (fX6_receives_0 τ σ x1 x2 x3) := by
  have hFU : ((FU : Nat) : Int) = 100000 := rfl
  unfold fX6_receives_0
  refine ok_bi (sX6_hasRoom τ σ x1 x2 hI (by omega) (by omega) (by omega) (by omega)) (fun r1 hr1 => ?_)
  obtain ⟨p2, p3⟩ := hr1
  have p2 : 0 ≤ r1.toInt := p2
  have p3 : r1.toInt ≤ 1 := p3
  have : (0 : Int32).toInt = 0 := by decide
  refine ok_eq (fun h4 => ?_) (fun h4 => ?_)
  · exact ok_some ⟨hI, by show 0 ≤ (0 : Int32).toInt; omega, by show (0 : Int32).toInt ≤ 1; omega⟩
  · have := i32_rng x3
    refine ok_bs (sX6_takesGreater τ σ x1 x2 x3 hI (by omega) (by omega) (by omega) (by omega)) (fun r3 σ4 hr5 => ?_)
    obtain ⟨p6, p7, p8⟩ := hr5
    have p6 : IvC 0 τ σ4 := p6
    have p7 : 0 ≤ r3.toInt := p7
    have p8 : r3.toInt ≤ 1 := p8
    refine ok_eq (fun h9 => ?_) (fun h9 => ?_)
    · exact ok_some ⟨p6, by show 0 ≤ (0 : Int32).toInt; omega, by show (0 : Int32).toInt ≤ 1; omega⟩
    · have : (1 : Int32).toInt = 1 := by decide
      exact ok_some ⟨p6, by show 0 ≤ (1 : Int32).toInt; omega, by show (1 : Int32).toInt ≤ 1; omega⟩

theorem sX6_receives (τ : Nat) (σ : S2) (a1 : Int32) (a2 : Int32) (a3 : Int32) (hI : IvC 0 τ σ) (p9000 : 0 ≤ a1.toInt) (p9001 : a1.toInt ≤ 11) (p9002 : 0 ≤ a2.toInt) (p9003 : a2.toInt ≤ 39)  : Ok (fun z => IvC 0 τ z.2 ∧ 0 ≤ z.1.toInt ∧ z.1.toInt ≤ 1) (fX6_receives τ σ a1 a2 a3) := by
  unfold fX6_receives
  exact sX6_receives_0 τ σ a1 a2 a3 hI (by assumption) (by assumption) (by assumption) (by assumption)

theorem sX6_reaches_0 (τ : Nat) (σ : S2) (x1 : Int32) (x2 : Int32) (hI : IvC 0 τ σ) (p9000 : 0 ≤ x1.toInt) (p9001 : x1.toInt ≤ 11) (p9002 : 0 ≤ x2.toInt) (p9003 : x2.toInt ≤ 39)  : Ok (fun z => IvC 0 τ z.2 ∧ 0 ≤ z.1.toInt ∧ z.1.toInt ≤ 1) (fX6_reaches_0 τ σ x1 x2) := by
  have hFU : ((FU : Nat) : Int) = 100000 := rfl
  unfold fX6_reaches_0
  refine ok_ck (by omega) (by omega) ?_
  have : 0 ≤ (σ.1 12 (Int32.toNatClampNeg x1)).toInt ∧ (σ.1 12 (Int32.toNatClampNeg x1)).toInt ≤ 1 := hI.1 12 (Int32.toNatClampNeg x1)
  refine ok_nmI (fun v1 hv1 he1 => ?_)
  have : (0 : Int32).toInt = 0 := by decide
  refine ok_eq (fun h2 => ?_) (fun h2 => ?_)
  · refine ok_ck (by omega) (by omega) ?_
    have : 0 ≤ (σ.1 8 (Int32.toNatClampNeg x1)).toInt ∧ (σ.1 8 (Int32.toNatClampNeg x1)).toInt ≤ 6 := hI.1 8 (Int32.toNatClampNeg x1)
    refine ok_nmI (fun v2 hv2 he3 => ?_)
    have : (4 : Int32).toInt = 4 := by decide
    refine ok_eq (fun h4 => ?_) (fun h4 => ?_)
    · refine ok_bs (sX6_isKeptFor τ σ x1 x2 hI (by omega) (by omega) (by omega) (by omega)) (fun r8 σ9 hr5 => ?_)
      obtain ⟨p6, p7, p8⟩ := hr5
      have p6 : IvC 0 τ σ9 := p6
      have p7 : 0 ≤ r8.toInt := p7
      have p8 : r8.toInt ≤ 1 := p8
      refine ok_zb (by omega) (by omega) ?_
      exact ok_some ⟨p6, by show 0 ≤ r8.toInt; omega, by show r8.toInt ≤ 1; omega⟩
    · refine ok_ck (by omega) (by omega) ?_
      have := i32_rng (σ.1 24 (Int32.toNatClampNeg x2))
      refine ok_nmI (fun v3 hv3 he9 => ?_)
      have := i32_rng v3
      refine ok_bs (sX6_receives τ σ x1 x2 v3 hI (by omega) (by omega) (by omega) (by omega)) (fun r4 σ5 hr10 => ?_)
      obtain ⟨p11, p12, p13⟩ := hr10
      have p11 : IvC 0 τ σ5 := p11
      have p12 : 0 ≤ r4.toInt := p12
      have p13 : r4.toInt ≤ 1 := p13
      refine ok_zb (by omega) (by omega) ?_
      exact ok_some ⟨p11, by show 0 ≤ r4.toInt; omega, by show r4.toInt ≤ 1; omega⟩
  · exact ok_some ⟨hI, by show 0 ≤ (0 : Int32).toInt; omega, by show (0 : Int32).toInt ≤ 1; omega⟩

theorem sX6_reaches (τ : Nat) (σ : S2) (a1 : Int32) (a2 : Int32) (hI : IvC 0 τ σ) (p9000 : 0 ≤ a1.toInt) (p9001 : a1.toInt ≤ 11) (p9002 : 0 ≤ a2.toInt) (p9003 : a2.toInt ≤ 39)  : Ok (fun z => IvC 0 τ z.2 ∧ 0 ≤ z.1.toInt ∧ z.1.toInt ≤ 1) (fX6_reaches τ σ a1 a2) := by
  unfold fX6_reaches
  exact sX6_reaches_0 τ σ a1 a2 hI (by assumption) (by assumption) (by assumption) (by assumption)

theorem sX6_spread_78 (τ : Nat) (b1 : Nat) (k45 : S2 → Int32 → Int32 → Int32 → Option (Int32 × S2)) (σ : S2) (x2 : Int32) (x3 : Int32) (x4 : Int32) (hI : IvC 0 τ σ) (p9000 : 0 ≤ x2.toInt) (p9001 : x2.toInt ≤ 39) (p9002 : 0 ≤ x4.toInt) (p9003 : x4.toInt ≤ 3) (hk45 : ∀ (y0 : S2) (y1 : Int32) (y2 : Int32) (y3 : Int32), IvC 0 τ y0 → 0 ≤ y1.toInt → y1.toInt ≤ 39 → 0 ≤ y3.toInt → y3.toInt ≤ 4 → x4.toInt + 1 ≤ y3.toInt → Ok (fun z => IvC 0 τ z.2) (k45 y0 y1 y2 y3)) : Ok (fun z => IvC 0 τ z.2) (fX6_spread_78 τ b1 k45 σ x2 x3 x4) := by
  have hFU : ((FU : Nat) : Int) = 100000 := rfl
  unfold fX6_spread_78
  have : (1 : Int32).toInt = 1 := by decide
  have : ((x4 + 1) : Int32).toInt = (x4 : Int32).toInt + (1 : Int32).toInt := i32_add (by omega) (by omega)
  refine ok_nmI (fun v1 hv1 he1 => ?_)
  have := i32_rng x3
  exact hk45 σ x2 x3 v1 hI (by omega) (by omega) (by omega) (by omega) (by omega)

