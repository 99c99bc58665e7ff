theorem sX8_takeMembers_0 (τ : Nat) (b0 : Nat) (σ : S2) (x1 : Int32) (hI : IvC 0 τ σ)   : Ok (fun z => IvC 0 τ z.2) (fX8_takeMembers_0 τ b0 σ x1) := by
  have hFU : ((FU : Nat) : Int) = 100000 := rfl
  unfold fX8_takeMembers_0
  have := i32_rng x1
  refine ok_nm (fun σ5 hs1 => ?_)
  have hI2 : IvC 0 τ σ5 := by rw [hs1]; exact IvC.wT0 (b := b0) hI (by decide) (i32_rng _).1 (i32_rng _).2
  have : (0 : Int32).toInt = 0 := by decide
  exact sX8_takeMembers_7 τ b0 FU σ5 x1 0 hI2 (by omega) (by omega) (by omega)

theorem sX8_takeMembers (τ : Nat) (b0 : Nat) (σ : S2) (a1 : Int32) (hI : IvC 0 τ σ)   : Ok (fun z => IvC 0 τ z.2) (fX8_takeMembers τ b0 σ a1) := by
  unfold fX8_takeMembers
  exact sX8_takeMembers_0 τ b0 σ a1 hI

theorem sX8_firstFor_70 (τ : Nat) (b0 : Nat) (k27 : S2 → Int32 → Int32 → Int32 → Int32 → Option Int32) (σ : S2) (x1 : Int32) (x2 : Int32) (x3 : Int32) (x4 : Int32) (hI : IvC 0 τ σ) (p9000 : 0 ≤ x1.toInt) (p9001 : x1.toInt ≤ 999) (p9002 : (-1) ≤ x2.toInt) (p9003 : x2.toInt ≤ 11) (p9004 : (-1) ≤ x3.toInt) (p9005 : x3.toInt ≤ 15984) (p9006 : 0 ≤ x4.toInt) (p9007 : x4.toInt ≤ 11) (hk27 : ∀ (y0 : S2) (y1 : Int32) (y2 : Int32) (y3 : Int32) (y4 : Int32), IvC 0 τ y0 → 0 ≤ y1.toInt → y1.toInt ≤ 999 → (-1) ≤ y2.toInt → y2.toInt ≤ 11 → (-1) ≤ y3.toInt → y3.toInt ≤ 15984 → 0 ≤ y4.toInt → y4.toInt ≤ 12 → x4.toInt + 1 ≤ y4.toInt → Ok (fun z => (-1) ≤ z.toInt ∧ z.toInt ≤ 11) (k27 y0 y1 y2 y3 y4)) : Ok (fun z => (-1) ≤ z.toInt ∧ z.toInt ≤ 11) (fX8_firstFor_70 τ b0 k27 σ x1 x2 x3 x4) := by
  have hFU : ((FU : Nat) : Int) = 100000 := rfl
  unfold fX8_firstFor_70
  have : (1 : Int32).toInt = 1 := by decide
  have : ((x4 + 1) : Int32).toInt = (x4 : Int32).toInt + (1 : Int32).toInt := i32_add (by omega) (by omega)
  refine ok_nmI (fun v1 hv1 he1 => ?_)
  exact hk27 σ x1 x2 x3 v1 hI (by omega) (by omega) (by omega) (by omega) (by omega) (by omega) (by omega) (by omega) (by omega)

theorem sX8_firstFor_27 (τ : Nat) (b0 : Nat) : ∀ (n : Nat) (σ : S2) (x1 : Int32) (x2 : Int32) (x3 : Int32) (x4 : Int32), IvC 0 τ σ → 0 ≤ x1.toInt → x1.toInt ≤ 999 → (-1) ≤ x2.toInt → x2.toInt ≤ 11 → (-1) ≤ x3.toInt → x3.toInt ≤ 15984 → 0 ≤ x4.toInt → x4.toInt ≤ 12 → 12 - x4.toInt < (n : Int) → Ok (fun z => (-1) ≤ z.toInt ∧ z.toInt ≤ 11) (fX8_firstFor_27 τ b0 n σ x1 x2 x3 x4) := by
  have hFU : ((FU : Nat) : Int) = 100000 := rfl
  intro n
  induction n with
  | zero => intro σ x1 x2 x3 x4 hI p9000 p9001 p9002 p9003 p9004 p9005 p9006 p9007 hm; exfalso; omega
  | succ n ih =>
    intro σ x1 x2 x3 x4 hI p9000 p9001 p9002 p9003 p9004 p9005 p9006 p9007 hm
    unfold fX8_firstFor_27
    have : (12 : Int32).toInt = 12 := by decide
    refine ok_le (fun h1 => ?_) (fun h1 => ?_)
    · exact ok_some ⟨by show (-1) ≤ x2.toInt; omega, by show x2.toInt ≤ 11; omega⟩
    · have := i32_rng (σ.1 (182 + (6 * b0)) 0)
      have : (31 : Int32).toInt = 31 := by decide
      have := i32_andR (a := x4) (m := 31) (by omega)
      have := i32_andL (a := x4) (m := 31) (by omega)
      have := i32_rng ((σ.1 (182 + (6 * b0)) 0) >>> (x4 &&& 31))
      have : (1 : Int32).toInt = 1 := by decide
      have := i32_andR (a := ((σ.1 (182 + (6 * b0)) 0) >>> (x4 &&& 31))) (m := 1) (by omega)
      have : (0 : Int32).toInt = 0 := by decide
      refine ok_eq (fun h2 => ?_) (fun h2 => ?_)
      · exact sX8_firstFor_70 τ b0 (fX8_firstFor_27 τ b0 n) σ x1 x2 x3 x4 hI (by omega) (by omega) (by omega) (by omega) (by omega) (by omega) (by omega) (by omega) (fun y0 y1 y2 y3 y4 q0 q1 q2 q3 q4 q5 q6 q7 q8 q9 => ih y0 y1 y2 y3 y4 q0 q1 q2 q3 q4 q5 q6 q7 q8 (by omega))
      · refine ok_bi (sX8_sumOf τ b0 σ x4 x1 hI (by omega) (by omega) (by omega) (by omega)) (fun r2 hr3 => ?_)
        obtain ⟨p4, p5⟩ := hr3
        have p4 : 0 ≤ r2.toInt := p4
        have p5 : r2.toInt ≤ 15984 := p5
        refine ok_le (fun h6 => ?_) (fun h6 => ?_)
        · exact sX8_firstFor_70 τ b0 (fX8_firstFor_27 τ b0 n) σ x1 x2 x3 x4 hI (by omega) (by omega) (by omega) (by omega) (by omega) (by omega) (by omega) (by omega) (fun y0 y1 y2 y3 y4 q0 q1 q2 q3 q4 q5 q6 q7 q8 q9 => ih y0 y1 y2 y3 y4 q0 q1 q2 q3 q4 q5 q6 q7 q8 (by omega))
        · exact sX8_firstFor_70 τ b0 (fX8_firstFor_27 τ b0 n) σ x1 x4 r2 x4 hI (by omega) (by omega) (by omega) (by omega) (by omega) (by omega) (by omega) (by omega) (fun y0 y1 y2 y3 y4 q0 q1 q2 q3 q4 q5 q6 q7 q8 q9 => ih y0 y1 y2 y3 y4 q0 q1 q2 q3 q4 q5 q6 q7 q8 (by omega))

theorem sX8_firstFor_0 (τ : Nat) (b0 : Nat) (σ : S2) (x1 : Int32) (hI : IvC 0 τ σ) (p9000 : 0 ≤ x1.toInt) (p9001 : x1.toInt ≤ 999)  : Ok (fun z => (-1) ≤ z.toInt ∧ z.toInt ≤ 11) (fX8_firstFor_0 τ b0 σ x1) := by
  have hFU : ((FU : Nat) : Int) = 100000 := rfl
  unfold fX8_firstFor_0
  have : 0 ≤ (σ.1 (182 + (6 * b0)) 4).toInt ∧ (σ.1 (182 + (6 * b0)) 4).toInt ≤ 2 := hI.1.t0 b0 4
  have : (1 : Int32).toInt = 1 := by decide
  refine ok_eq (fun h1 => ?_) (fun h1 => ?_)
  · have : ((-1) : Int32).toInt = (-1) := by decide
    have : (0 : Int32).toInt = 0 := by decide
    exact sX8_firstFor_27 τ b0 FU σ x1 (-1) (-1) 0 hI (by omega) (by omega) (by omega) (by omega) (by omega) (by omega) (by omega) (by omega) (by omega)
  · refine ok_ck (by omega) (by omega) ?_
    have : 0 ≤ (σ.1 ((182 + (6 * b0)) + 5) (Int32.toNatClampNeg x1)).toInt ∧ (σ.1 ((182 + (6 * b0)) + 5) (Int32.toNatClampNeg x1)).toInt ≤ 999 := hI.1.t b0 5 (Int32.toNatClampNeg x1) (by decide)
    refine ok_nmI (fun v4 hv4 he2 => ?_)
    refine ok_ck (by omega) (by omega) ?_
    have : (-1) ≤ (σ.1 ((182 + (6 * b0)) + 4) (Int32.toNatClampNeg v4)).toInt ∧ (σ.1 ((182 + (6 * b0)) + 4) (Int32.toNatClampNeg v4)).toInt ≤ 11 := hI.1.t b0 4 (Int32.toNatClampNeg v4) (by decide)
    refine ok_nmI (fun v5 hv5 he3 => ?_)
    exact ok_some ⟨by show (-1) ≤ v5.toInt; omega, by show v5.toInt ≤ 11; omega⟩

theorem sX8_firstFor (τ : Nat) (b0 : Nat) (σ : S2) (a1 : Int32) (hI : IvC 0 τ σ) (p9000 : 0 ≤ a1.toInt) (p9001 : a1.toInt ≤ 999)  : Ok (fun z => (-1) ≤ z.toInt ∧ z.toInt ≤ 11) (fX8_firstFor τ b0 σ a1) := by
  unfold fX8_firstFor
  exact sX8_firstFor_0 τ b0 σ a1 hI (by assumption) (by assumption)

theorem sX8_countOdds_51 (τ : Nat) (b0 : Nat) (k18 : S2 → Int32 → Option (Unit × S2)) (σ : S2) (x1 : Int32) (hI : IvC 0 τ σ) (p9000 : 0 ≤ x1.toInt) (p9001 : x1.toInt ≤ 999) (hk18 : ∀ (y0 : S2) (y1 : Int32), IvC 0 τ y0 → 0 ≤ y1.toInt → y1.toInt ≤ 1000 → x1.toInt + 1 ≤ y1.toInt → Ok (fun z => IvC 0 τ z.2) (k18 y0 y1)) : Ok (fun z => IvC 0 τ z.2) (fX8_countOdds_51 τ b0 k18 σ x1) := by
  have hFU : ((FU : Nat) : Int) = 100000 := rfl
  unfold fX8_countOdds_51
  have : (1 : Int32).toInt = 1 := by decide
  have : ((x1 + 1) : Int32).toInt = (x1 : Int32).toInt + (1 : Int32).toInt := i32_add (by omega) (by omega)
  refine ok_nmI (fun v1 hv1 he1 => ?_)
  exact hk18 σ v1 hI (by omega) (by omega) (by omega)

theorem sX8_countOdds_18 (τ : Nat) (b0 : Nat) : ∀ (n : Nat) (σ : S2) (x1 : Int32), IvC 0 τ σ → 0 ≤ x1.toInt → x1.toInt ≤ 1000 → 1000 - x1.toInt < (n : Int) → Ok (fun z => IvC 0 τ z.2) (fX8_countOdds_18 τ b0 n σ x1) := by
  have hFU : ((FU : Nat) : Int) = 100000 := rfl
  intro n
  induction n with
  | zero => intro σ x1 hI p9000 p9001 hm; exfalso; omega
  | succ n ih =>
    intro σ x1 hI p9000 p9001 hm
    unfold fX8_countOdds_18
    have : (1000 : Int32).toInt = 1000 := by decide
    refine ok_le (fun h1 => ?_) (fun h1 => ?_)
    · have : (1 : Int32).toInt = 1 := by decide
      refine ok_nm (fun σ2 hs2 => ?_)
      have hI3 : IvC 0 τ σ2 := by rw [hs2]; exact IvC.wT0 (b := b0) hI (by decide) (show 0 ≤ (1 : Int32).toInt by omega) (show (1 : Int32).toInt ≤ 1 by omega)
      exact ok_some hI3
    · refine ok_bi (sX8_firstFor τ b0 σ x1 hI (by omega) (by omega)) (fun r3 hr4 => ?_)
      obtain ⟨p5, p6⟩ := hr4
      have p5 : (-1) ≤ r3.toInt := p5
      have p6 : r3.toInt ≤ 11 := p6
      have : (0 : Int32).toInt = 0 := by decide
      refine ok_lt (fun h7 => ?_) (fun h7 => ?_)
      · exact sX8_countOdds_51 τ b0 (fX8_countOdds_18 τ b0 n) σ x1 hI (by omega) (by omega) (fun y0 y1 q0 q1 q2 q3 => ih y0 y1 q0 q1 q2 (by omega))
      · have : (12 : Int32).toInt = 12 := by decide
        refine ok_le (fun h8 => ?_) (fun h8 => ?_)
        · exfalso; omega
        · refine ok_ck (by omega) (by omega) ?_
          have := i32_rng (σ.1 ((182 + (6 * b0)) + 2) (Int32.toNatClampNeg r3))
          refine ok_nmI (fun v5 hv5 he9 => ?_)
          refine ok_ck (by omega) (by omega) ?_
          have := i32_rng v5
          have : (1 : Int32).toInt = 1 := by decide
          have := i32_rng (v5 + 1)
          refine ok_nm (fun σ6 hs10 => ?_)
          have hI11 : IvC 0 τ σ6 := by rw [hs10]; exact IvC.wT (b := b0) (j := 2) hI (by decide) (by decide) (i32_rng _).1 (i32_rng _).2
          exact sX8_countOdds_51 τ b0 (fX8_countOdds_18 τ b0 n) σ6 x1 hI11 (by omega) (by omega) (fun y0 y1 q0 q1 q2 q3 => ih y0 y1 q0 q1 q2 (by omega))

theorem sX8_countOdds_0 (τ : Nat) (b0 : Nat) (σ : S2) (hI : IvC 0 τ σ)   : Ok (fun z => IvC 0 τ z.2) (fX8_countOdds_0 τ b0 σ) := by
  have hFU : ((FU : Nat) : Int) = 100000 := rfl
  unfold fX8_countOdds_0
  have : 0 ≤ (σ.1 (182 + (6 * b0)) 7).toInt ∧ (σ.1 (182 + (6 * b0)) 7).toInt ≤ 1 := hI.1.t0 b0 7
  have : (0 : Int32).toInt = 0 := by decide
  refine ok_eq (fun h1 => ?_) (fun h1 => ?_)
  · refine ok_bs (sJ7_fill_53178 τ ((182 + (6 * b0)) + 2) 12 σ 0 hI (by omega) (by omega) (by first | assumption | exact KeM.rf _ | exact FlC.t2) (by omega)) (fun r7 σ8 hr2 => ?_)
    have hr2 : IvC 0 τ σ8 := hr2
    exact sX8_countOdds_18 τ b0 FU σ8 0 hr2 (by omega) (by omega) (by omega)
  · exact ok_some hI

theorem sX8_countOdds (τ : Nat) (b0 : Nat) (σ : S2) (hI : IvC 0 τ σ)   : Ok (fun z => IvC 0 τ z.2) (fX8_countOdds τ b0 σ) := by
  unfold fX8_countOdds
  exact sX8_countOdds_0 τ b0 σ hI

theorem sX8_unevenness_54 (τ : Nat) (b0 : Nat) (k12 : S2 → Int32 → Int32 → Int32 → Option (Int32 × S2)) (σ : S2) (x1 : Int32) (x2 : Int32) (x3 : Int32) (hI : IvC 0 τ σ) (p9000 : x1.toInt ≤ 1000) (p9001 : 0 ≤ x2.toInt) (p9002 : 0 ≤ x3.toInt) (p9003 : x3.toInt ≤ 11) (hk12 : ∀ (y0 : S2) (y1 : Int32) (y2 : Int32) (y3 : Int32), IvC 0 τ y0 → y1.toInt ≤ 1000 → 0 ≤ y2.toInt → 0 ≤ y3.toInt → y3.toInt ≤ 12 → x3.toInt + 1 ≤ y3.toInt → Ok (fun z => IvC 0 τ z.2) (k12 y0 y1 y2 y3)) : Ok (fun z => IvC 0 τ z.2) (fX8_unevenness_54 τ b0 k12 σ x1 x2 x3) := by
  have hFU : ((FU : Nat) : Int) = 100000 := rfl
  unfold fX8_unevenness_54
  have : (1 : Int32).toInt = 1 := by decide
  have : ((x3 + 1) : Int32).toInt = (x3 : Int32).toInt + (1 : Int32).toInt := i32_add (by omega) (by omega)
  refine ok_nmI (fun v1 hv1 he1 => ?_)
  have := i32_rng x1
  have := i32_rng x2
  exact hk12 σ x1 x2 v1 hI (by omega) (by omega) (by omega) (by omega) (by omega)

theorem sX8_unevenness_12 (τ : Nat) (b0 : Nat) : ∀ (n : Nat) (σ : S2) (x1 : Int32) (x2 : Int32) (x3 : Int32), IvC 0 τ σ → x1.toInt ≤ 1000 → 0 ≤ x2.toInt → 0 ≤ x3.toInt → x3.toInt ≤ 12 → 12 - x3.toInt < (n : Int) → Ok (fun z => IvC 0 τ z.2) (fX8_unevenness_12 τ b0 n σ x1 x2 x3) := by
  have hFU : ((FU : Nat) : Int) = 100000 := rfl
  intro n
  induction n with
  | zero => intro σ x1 x2 x3 hI p9000 p9001 p9002 p9003 hm; exfalso; omega
  | succ n ih =>
    intro σ x1 x2 x3 hI p9000 p9001 p9002 p9003 hm
    unfold fX8_unevenness_12
    have : (12 : Int32).toInt = 12 := by decide
    refine ok_le (fun h1 => ?_) (fun h1 => ?_)
    · have := i32_rng x2
      have := i32_rng x1
      have := i32_rng (x2 - x1)
      exact ok_some hI
    · have := i32_rng (σ.1 (182 + (6 * b0)) 0)
      have : (31 : Int32).toInt = 31 := by decide
      have := i32_andR (a := x3) (m := 31) (by omega)
      have := i32_andL (a := x3) (m := 31) (by omega)
      have := i32_rng ((σ.1 (182 + (6 * b0)) 0) >>> (x3 &&& 31))
      have : (1 : Int32).toInt = 1 := by decide
      have := i32_andR (a := ((σ.1 (182 + (6 * b0)) 0) >>> (x3 &&& 31))) (m := 1) (by omega)
      have : (0 : Int32).toInt = 0 := by decide
      refine ok_eq (fun h2 => ?_) (fun h2 => ?_)
      · have := i32_rng x1
        have := i32_rng x2
        exact sX8_unevenness_54 τ b0 (fX8_unevenness_12 τ b0 n) σ x1 x2 x3 hI (by omega) (by omega) (by omega) (by omega) (fun y0 y1 y2 y3 q0 q1 q2 q3 q4 q5 => ih y0 y1 y2 y3 q0 q1 q2 q3 q4 (by omega))
      · refine ok_ck (by omega) (by omega) ?_
        have := i32_rng (σ.1 ((182 + (6 * b0)) + 2) (Int32.toNatClampNeg x3))
        refine ok_nmI (fun v2 hv2 he3 => ?_)
        have := i32_rng v2
        have := i32_rng x1
        have := i32_iflt v2 x1 v2 x1
        refine ok_nmI (fun v3 hv3 he4 => ?_)
        refine ok_ck (by omega) (by omega) ?_
        refine ok_nmI (fun v4 hv4 he5 => ?_)
        have := i32_rng x2
        have := i32_rng v4
        have := i32_iflt x2 v4 v4 x2
        refine ok_nmI (fun v5 hv5 he6 => ?_)
        have := i32_rng v3
        have := i32_rng v5
        exact sX8_unevenness_54 τ b0 (fX8_unevenness_12 τ b0 n) σ v3 v5 x3 hI (by omega) (by omega) (by omega) (by omega) (fun y0 y1 y2 y3 q0 q1 q2 q3 q4 q5 => ih y0 y1 y2 y3 q0 q1 q2 q3 q4 (by omega))

theorem sX8_unevenness_0 (τ : Nat) (b0 : Nat) (σ : S2) (hI : IvC 0 τ σ)   : Ok (fun z => IvC 0 τ z.2) (fX8_unevenness_0 τ b0 σ) := by
  have hFU : ((FU : Nat) : Int) = 100000 := rfl
  unfold fX8_unevenness_0
  refine ok_bs (sX8_countOdds τ b0 σ hI) (fun r6 σ7 hr1 => ?_)
  have hr1 : IvC 0 τ σ7 := hr1
  have : (1000 : Int32).toInt = 1000 := by decide
  have : (0 : Int32).toInt = 0 := by decide
  exact sX8_unevenness_12 τ b0 FU σ7 1000 0 0 hr1 (by omega) (by omega) (by omega) (by omega) (by omega)

theorem sX8_unevenness (τ : Nat) (b0 : Nat) (σ : S2) (hI : IvC 0 τ σ)   : Ok (fun z => IvC 0 τ z.2) (fX8_unevenness τ b0 σ) := by
  unfold fX8_unevenness
  exact sX8_unevenness_0 τ b0 σ hI

theorem sX8_alikeIn_41 (τ : Nat) (b0 : Nat) (b1 : Nat) (k12 : S2 → Int32 → Int32 → Option Int32) (σ : S2) (x2 : Int32) (x3 : Int32) (hI : IvC 0 τ σ) (p9000 : 0 ≤ x3.toInt) (p9001 : x3.toInt ≤ 11) (hk12 : ∀ (y0 : S2) (y1 : Int32) (y2 : Int32), IvC 0 τ y0 → 0 ≤ y2.toInt → y2.toInt ≤ 12 → x3.toInt + 1 ≤ y2.toInt → Ok (fun z => True) (k12 y0 y1 y2)) : Ok (fun z => True) (fX8_alikeIn_41 τ b0 b1 k12 σ x2 x3) := by
  have hFU : ((FU : Nat) : Int) = 100000 := rfl
  unfold fX8_alikeIn_41
  have : (1 : Int32).toInt = 1 := by decide
  have : ((x3 + 1) : Int32).toInt = (x3 : Int32).toInt + (1 : Int32).toInt := i32_add (by omega) (by omega)
  refine ok_nmI (fun v1 hv1 he1 => ?_)
  have := i32_rng x2
  exact hk12 σ x2 v1 hI (by omega) (by omega) (by omega)

