theorem sX6_unlikeLeaves_0 (τ : Nat) (σ : S2) (hI : IvC 0 τ σ)   : Ok (fun z => True) (fX6_unlikeLeaves_0 τ σ) := by
  have hFU : ((FU : Nat) : Int) = 100000 := rfl
  unfold fX6_unlikeLeaves_0
  have : (0 : Int32).toInt = 0 := by decide
  have : (8 : Int32).toInt = 8 := by decide
  exact sX6_unlikeLeaves_5 τ FU σ 0 8 hI (by omega) (by omega) (by omega)

theorem sX6_unlikeLeaves (τ : Nat) (σ : S2) (hI : IvC 0 τ σ)   : Ok (fun z => True) (fX6_unlikeLeaves τ σ) := by
  unfold fX6_unlikeLeaves
  exact sX6_unlikeLeaves_0 τ σ hI

theorem sX6_keptBy_0 (τ : Nat) (σ : S2) (x1 : Int32) (hI : IvC 0 τ σ) (p9000 : 0 ≤ x1.toInt) (p9001 : x1.toInt ≤ 11)  : Ok (fun z => True) (fX6_keptBy_0 τ σ x1) := by
  have hFU : ((FU : Nat) : Int) = 100000 := rfl
  unfold fX6_keptBy_0
  refine ok_ck (by omega) (by omega) ?_
  refine ok_bi (sX6_filled τ (96 + (Int32.toNatClampNeg x1)) 40 σ hI (by omega)) (fun r2 hr1 => ?_)
  have := i32_rng r2
  exact ok_some trivial

theorem sX6_keptBy (τ : Nat) (σ : S2) (a1 : Int32) (hI : IvC 0 τ σ) (p9000 : 0 ≤ a1.toInt) (p9001 : a1.toInt ≤ 11)  : Ok (fun z => True) (fX6_keptBy τ σ a1) := by
  unfold fX6_keptBy
  exact sX6_keptBy_0 τ σ a1 hI (by assumption) (by assumption)

theorem sX6_allCopies_4 (τ : Nat) : ∀ (n : Nat) (σ : S2) (x1 : Int32) (x2 : Int32), IvC 0 τ σ → 0 ≤ x2.toInt → x2.toInt ≤ 12 → 12 - x2.toInt < (n : Int) → Ok (fun z => True) (fX6_allCopies_4 τ n σ x1 x2) := by
  have hFU : ((FU : Nat) : Int) = 100000 := rfl
  intro n
  induction n with
  | zero => intro σ x1 x2 hI p9000 p9001 hm; exfalso; omega
  | succ n ih =>
    intro σ x1 x2 hI p9000 p9001 hm
    unfold fX6_allCopies_4
    have : 0 ≤ (σ.1 7 5).toInt ∧ (σ.1 7 5).toInt ≤ 12 := hI.1 7 5
    refine ok_le (fun h1 => ?_) (fun h1 => ?_)
    · have := i32_rng x1
      exact ok_some trivial
    · refine ok_bi (sX6_copiesOn τ σ x2 hI (by omega) (by omega)) (fun r1 hr2 => ?_)
      have := i32_rng x1
      have := i32_rng r1
      have := i32_rng (x1 + r1)
      refine ok_nmI (fun v3 hv3 he3 => ?_)
      have : (1 : Int32).toInt = 1 := by decide
      have : ((x2 + 1) : Int32).toInt = (x2 : Int32).toInt + (1 : Int32).toInt := i32_add (by omega) (by omega)
      refine ok_nmI (fun v4 hv4 he4 => ?_)
      have := i32_rng v3
      exact ih σ v3 v4 hI (by omega) (by omega) (by omega)

theorem sX6_allCopies_0 (τ : Nat) (σ : S2) (hI : IvC 0 τ σ)   : Ok (fun z => True) (fX6_allCopies_0 τ σ) := by
  have hFU : ((FU : Nat) : Int) = 100000 := rfl
  unfold fX6_allCopies_0
  have : (0 : Int32).toInt = 0 := by decide
  exact sX6_allCopies_4 τ FU σ 0 0 hI (by omega) (by omega) (by omega)

theorem sX6_allCopies (τ : Nat) (σ : S2) (hI : IvC 0 τ σ)   : Ok (fun z => True) (fX6_allCopies τ σ) := by
  unfold fX6_allCopies
  exact sX6_allCopies_0 τ σ hI

theorem sX6_allKept_4 (τ : Nat) : ∀ (n : Nat) (σ : S2) (x1 : Int32) (x2 : Int32), IvC 0 τ σ → 0 ≤ x2.toInt → x2.toInt ≤ 12 → 12 - x2.toInt < (n : Int) → Ok (fun z => True) (fX6_allKept_4 τ n σ x1 x2) := by
  have hFU : ((FU : Nat) : Int) = 100000 := rfl
  intro n
  induction n with
  | zero => intro σ x1 x2 hI p9000 p9001 hm; exfalso; omega
  | succ n ih =>
    intro σ x1 x2 hI p9000 p9001 hm
    unfold fX6_allKept_4
    have : 0 ≤ (σ.1 7 5).toInt ∧ (σ.1 7 5).toInt ≤ 12 := hI.1 7 5
    refine ok_le (fun h1 => ?_) (fun h1 => ?_)
    · have := i32_rng x1
      exact ok_some trivial
    · refine ok_bi (sX6_keptBy τ σ x2 hI (by omega) (by omega)) (fun r1 hr2 => ?_)
      have := i32_rng x1
      have := i32_rng r1
      have := i32_rng (x1 + r1)
      refine ok_nmI (fun v3 hv3 he3 => ?_)
      have : (1 : Int32).toInt = 1 := by decide
      have : ((x2 + 1) : Int32).toInt = (x2 : Int32).toInt + (1 : Int32).toInt := i32_add (by omega) (by omega)
      refine ok_nmI (fun v4 hv4 he4 => ?_)
      have := i32_rng v3
      exact ih σ v3 v4 hI (by omega) (by omega) (by omega)

theorem sX6_allKept_0 (τ : Nat) (σ : S2) (hI : IvC 0 τ σ)   : Ok (fun z => True) (fX6_allKept_0 τ σ) := by
  have hFU : ((FU : Nat) : Int) = 100000 := rfl
  unfold fX6_allKept_0
  have : (0 : Int32).toInt = 0 := by decide
  exact sX6_allKept_4 τ FU σ 0 0 hI (by omega) (by omega) (by omega)

theorem sX6_allKept (τ : Nat) (σ : S2) (hI : IvC 0 τ σ)   : Ok (fun z => True) (fX6_allKept τ σ) := by
  unfold fX6_allKept
  exact sX6_allKept_0 τ σ hI

theorem sX7_holdKeeper_0 (τ : Nat) (σ : S2) (x1 : Int32) (x2 : Int32) (hI : IvC 0 τ σ) (p9000 : 0 ≤ x1.toInt) (p9001 : x1.toInt ≤ 5) (p9002 : (-1) ≤ x2.toInt) (p9003 : x2.toInt ≤ 11)  : Ok (fun z => IvC 0 τ z.2) (fX7_holdKeeper_0 τ σ x1 x2) := by
  have hFU : ((FU : Nat) : Int) = 100000 := rfl
  unfold fX7_holdKeeper_0
  refine ok_ck (by omega) (by omega) ?_
  refine ok_nm (fun σ1 hs1 => ?_)
  have hI2 : IvC 0 τ σ1 := by rw [hs1]; exact IvC.wF hI (by decide) (by omega) (show (-1) ≤ (x2 : Int32).toInt by omega) (show (x2 : Int32).toInt ≤ 11 by omega)
  refine ok_ck (by omega) (by omega) ?_
  have : ((-1) : Int32).toInt = (-1) := by decide
  refine ok_nm (fun σ2 hs3 => ?_)
  have hI4 : IvC 0 τ σ2 := by rw [hs3]; exact IvC.wF hI2 (by decide) (by omega) (show (-1) ≤ ((-1) : Int32).toInt by omega) (show ((-1) : Int32).toInt ≤ 4 by omega)
  refine ok_ck (by omega) (by omega) ?_
  have : (0 : Int32).toInt = 0 := by decide
  refine ok_nm (fun σ3 hs5 => ?_)
  have hI6 : IvC 0 τ σ3 := by rw [hs5]; exact IvC.wF hI4 (by decide) (by omega) (show 0 ≤ (0 : Int32).toInt by omega) (show (0 : Int32).toInt ≤ 60 by omega)
  exact ok_some hI6

theorem sX7_holdKeeper (τ : Nat) (σ : S2) (a1 : Int32) (a2 : Int32) (hI : IvC 0 τ σ) (p9000 : 0 ≤ a1.toInt) (p9001 : a1.toInt ≤ 5) (p9002 : (-1) ≤ a2.toInt) (p9003 : a2.toInt ≤ 11)  : Ok (fun z => IvC 0 τ z.2) (fX7_holdKeeper τ σ a1 a2) := by
  unfold fX7_holdKeeper
  exact sX7_holdKeeper_0 τ σ a1 a2 hI (by assumption) (by assumption) (by assumption) (by assumption)

theorem sJ7_fill_d0a16_6 (τ : Nat) (c0 : Nat) (n0 : Nat) : ∀ (n : Nat) (σ : S2) (x1 : Int64) (x3 : Int32) (x4 : Int32), IvC 0 τ σ → 0 ≤ x3.toInt → x3.toInt ≤ 1000 → 0 ≤ x4.toInt → x4.toInt ≤ 1000 → (n0 : Int) ≤ 1000 → x4.toInt ≤ (n0 : Int) → 1000 - x3.toInt < (n : Int) → Ok (fun z => IvC 0 τ z.2) (fJ7_fill_d0a16_6 τ c0 n0 n σ x1 x3 x4) := by
  have hFU : ((FU : Nat) : Int) = 100000 := rfl
  intro n
  induction n with
  | zero => intro σ x1 x3 x4 hI p9000 p9001 p9002 p9003 p9004 p9005 hm; exfalso; omega
  | succ n ih =>
    intro σ x1 x3 x4 hI p9000 p9001 p9002 p9003 p9004 p9005 hm
    unfold fJ7_fill_d0a16_6
    refine ok_le (fun h1 => ?_) (fun h1 => ?_)
    · exact ok_some hI
    · refine ok_ck (by omega) (by omega) ?_
      refine ok_nm (fun σ1 hs2 => ?_)
      have hI3 : IvC 0 τ σ1 := by rw [hs2]; exact IvC.wL hI
      have : (1 : Int32).toInt = 1 := by decide
      have : ((x3 + 1) : Int32).toInt = (x3 : Int32).toInt + (1 : Int32).toInt := i32_add (by omega) (by omega)
      refine ok_nmI (fun v2 hv2 he4 => ?_)
      exact ih σ1 x1 v2 x4 hI3 (by omega) (by omega) (by omega) (by omega) (by omega) (by omega) (by omega)

theorem sJ7_fill_d0a16_0 (τ : Nat) (c0 : Nat) (n0 : Nat) (σ : S2) (x1 : Int64) (hI : IvC 0 τ σ) (p9000 : (n0 : Int) ≤ 1000)  : Ok (fun z => IvC 0 τ z.2) (fJ7_fill_d0a16_0 τ c0 n0 σ x1) := by
  have hFU : ((FU : Nat) : Int) = 100000 := rfl
  unfold fJ7_fill_d0a16_0
  have : ((Int32.ofNat n0) : Int32).toInt = (n0 : Int) := i32_ofNat (by omega)
  refine ok_nmI (fun v3 hv3 he1 => ?_)
  have : (0 : Int32).toInt = 0 := by decide
  exact sJ7_fill_d0a16_6 τ c0 n0 FU σ x1 0 v3 hI (by omega) (by omega) (by omega) (by omega) (by omega) (by omega) (by omega)

theorem sJ7_fill_d0a16 (τ : Nat) (c0 : Nat) (n0 : Nat) (σ : S2) (a1 : Int64) (hI : IvC 0 τ σ) (p9000 : (n0 : Int) ≤ 1000)  : Ok (fun z => IvC 0 τ z.2) (fJ7_fill_d0a16 τ c0 n0 σ a1) := by
  unfold fJ7_fill_d0a16
  exact sJ7_fill_d0a16_0 τ c0 n0 σ a1 hI (by assumption)

