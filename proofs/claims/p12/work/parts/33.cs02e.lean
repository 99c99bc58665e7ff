theorem sX6_mendAll_0 (τ : Nat) (b1 : Nat) (σ : S2) (hI : IvC 0 τ σ)   : Ok (fun z => IvC 0 τ z.2) (fX6_mendAll_0 τ b1 σ) := by
  have hFU : ((FU : Nat) : Int) = 100000 := rfl
  unfold fX6_mendAll_0
  have : (0 : Int32).toInt = 0 := by decide
  exact sX6_mendAll_4 τ b1 FU σ 0 0 hI (by omega) (by omega) (by omega)

theorem sX6_mendAll (τ : Nat) (b1 : Nat) (σ : S2) (hI : IvC 0 τ σ)   : Ok (fun z => IvC 0 τ z.2) (fX6_mendAll τ b1 σ) := by
  unfold fX6_mendAll
  exact sX6_mendAll_0 τ b1 σ hI

theorem sX6_grow_51 (τ : Nat) (c1 : Nat) (n1 : Nat) : ∀ (n : Nat) (σ : S2) (x3 : Int32), IvC 0 τ σ → 0 ≤ x3.toInt → x3.toInt ≤ 7 → FaC 0 τ c1 → (n1 : Int) = 16 → x3.toInt - 0 < (n : Int) → Ok (fun z => IvC 0 τ z.2) (fX6_grow_51 τ c1 n1 n σ x3) := by
  have hFU : ((FU : Nat) : Int) = 100000 := rfl
  intro n
  induction n with
  | zero => intro σ x3 hI p9000 p9001 p9002 p9003 hm; exfalso; omega
  | succ n ih =>
    intro σ x3 hI p9000 p9001 p9002 p9003 hm
    unfold fX6_grow_51
    have : (1 : Int32).toInt = 1 := by decide
    refine ok_lt (fun h1 => ?_) (fun h1 => ?_)
    · exact ok_some hI
    · have : (2 : Int32).toInt = 2 := by decide
      have : ((2 * x3) : Int32).toInt = 2 * (x3 : Int32).toInt := i32_mulL (by omega) (by omega) (by omega)
      refine ok_ck (by omega) (by omega) ?_
      have := i32_rng (σ.1 c1 (Int32.toNatClampNeg (2 * x3)))
      refine ok_nmI (fun v1 hv1 he2 => ?_)
      have : (((2 * x3) + 1) : Int32).toInt = ((2 * x3) : Int32).toInt + (1 : Int32).toInt := i32_add (by omega) (by omega)
      refine ok_ck (by omega) (by omega) ?_
      have := i32_rng (σ.1 c1 (Int32.toNatClampNeg ((2 * x3) + 1)))
      refine ok_nmI (fun v2 hv2 he3 => ?_)
      refine ok_ck (by omega) (by omega) ?_
      have := i32_rng v1
      have := i32_rng v2
      have := i32_rng (v1 + v2)
      refine ok_nm (fun σ3 hs4 => ?_)
      have hI5 : IvC 0 τ σ3 := by rw [hs4]; first | exact (show FlC 0 τ c1 (v1 + v2) by assumption) _ _ hI | exact (show FaC 0 τ c1 by assumption) _ _ _ hI
      refine ok_nmI (fun v4 hv4 he6 => ?_)
      have : v4.toInt = x3.toInt - 1 := by rw [he6]; exact i32_addm1 (by omega)
      clear hv4 he6
      exact ih σ3 v4 hI5 (by omega) (by omega) (by first | assumption | exact KeM.rf _) (by omega) (by omega)

theorem sX6_grow_7 (τ : Nat) (c1 : Nat) (n1 : Nat) : ∀ (n : Nat) (σ : S2) (x2 : Int32) (x3 : Int32), IvC 0 τ σ → 0 ≤ x2.toInt → x2.toInt ≤ 11 → 0 ≤ x3.toInt → x3.toInt ≤ 40 → FaC 0 τ c1 → (n1 : Int) = 16 → 40 - x3.toInt < (n : Int) → Ok (fun z => IvC 0 τ z.2) (fX6_grow_7 τ c1 n1 n σ x2 x3) := by
  have hFU : ((FU : Nat) : Int) = 100000 := rfl
  intro n
  induction n with
  | zero => intro σ x2 x3 hI p9000 p9001 p9002 p9003 p9004 p9005 hm; exfalso; omega
  | succ n ih =>
    intro σ x2 x3 hI p9000 p9001 p9002 p9003 p9004 p9005 hm
    unfold fX6_grow_7
    have : 0 ≤ (σ.1 3 3).toInt ∧ (σ.1 3 3).toInt ≤ 40 := hI.1 3 3
    refine ok_le (fun h1 => ?_) (fun h1 => ?_)
    · have : (7 : Int32).toInt = 7 := by decide
      exact sX6_grow_51 τ c1 n1 FU σ 7 hI (by omega) (by omega) (by first | assumption | exact KeM.rf _) (by omega) (by omega)
    · have : (8 : Int32).toInt = 8 := by decide
      refine ok_dz (by omega) ?_
      have : ((x3 - ((x3 / 8) * 8)) : Int32).toInt = (x3 : Int32).toInt % 8 := i32_rem (by first | decide | omega | rfl) (by omega) (by omega)
      have : ((8 + (x3 - ((x3 / 8) * 8))) : Int32).toInt = (8 : Int32).toInt + ((x3 - ((x3 / 8) * 8)) : Int32).toInt := i32_add (by omega) (by omega)
      refine ok_ck (by omega) (by omega) ?_
      have := i32_rng (σ.1 c1 (Int32.toNatClampNeg (8 + (x3 - ((x3 / 8) * 8)))))
      refine ok_nmI (fun v6 hv6 he2 => ?_)
      refine ok_ck (by omega) (by omega) ?_
      refine ok_ck (by omega) (by omega) ?_
      have := i32_rng (σ.1 (84 + (Int32.toNatClampNeg x2)) (Int32.toNatClampNeg x3))
      refine ok_nmI (fun v8 hv8 he3 => ?_)
      refine ok_ck (by omega) (by omega) ?_
      have := i32_rng v6
      have : (1 : Int32).toInt = 1 := by decide
      have : ((x3 + 1) : Int32).toInt = (x3 : Int32).toInt + (1 : Int32).toInt := i32_add (by omega) (by omega)
      have := i32_rng v8
      have := i32_rng ((x3 + 1) * v8)
      have := i32_rng (v6 + ((x3 + 1) * v8))
      refine ok_nm (fun σ9 hs4 => ?_)
      have hI5 : IvC 0 τ σ9 := by rw [hs4]; first | exact (show FlC 0 τ c1 (v6 + ((x3 + 1) * v8)) by assumption) _ _ hI | exact (show FaC 0 τ c1 by assumption) _ _ _ hI
      refine ok_nmI (fun v10 hv10 he6 => ?_)
      exact ih σ9 x2 v10 hI5 (by omega) (by omega) (by omega) (by omega) (by first | assumption | exact KeM.rf _) (by omega) (by omega)

theorem sX6_grow_0 (τ : Nat) (c1 : Nat) (n1 : Nat) (σ : S2) (x2 : Int32) (hI : IvC 0 τ σ) (p9000 : 0 ≤ x2.toInt) (p9001 : x2.toInt ≤ 11) (p9002 : FaC 0 τ c1) (p9003 : (n1 : Int) = 16)  : Ok (fun z => IvC 0 τ z.2) (fX6_grow_0 τ c1 n1 σ x2) := by
  have hFU : ((FU : Nat) : Int) = 100000 := rfl
  unfold fX6_grow_0
  have : (0 : Int32).toInt = 0 := by decide
  refine ok_bs (sJ7_fill_53178 τ c1 n1 σ 0 hI (by omega) (by omega) (by first | assumption | exact KeM.rf _ | exact FaC.fl (by assumption)) (by omega)) (fun r11 σ12 hr1 => ?_)
  have hr1 : IvC 0 τ σ12 := hr1
  exact sX6_grow_7 τ c1 n1 FU σ12 x2 0 hr1 (by omega) (by omega) (by omega) (by omega) (by first | assumption | exact KeM.rf _) (by omega) (by omega)

theorem sX6_grow (τ : Nat) (c1 : Nat) (n1 : Nat) (σ : S2) (a2 : Int32) (hI : IvC 0 τ σ) (p9000 : 0 ≤ a2.toInt) (p9001 : a2.toInt ≤ 11) (p9002 : FaC 0 τ c1) (p9003 : (n1 : Int) = 16)  : Ok (fun z => IvC 0 τ z.2) (fX6_grow τ c1 n1 σ a2) := by
  unfold fX6_grow
  exact sX6_grow_0 τ c1 n1 σ a2 hI (by assumption) (by assumption) (by assumption) (by assumption)

theorem sX6_compare_0 (τ : Nat) (σ : S2) (x1 : Int32) (x2 : Int32) (hI : IvC 0 τ σ) (p9000 : 0 ≤ x1.toInt) (p9001 : x1.toInt ≤ 11) (p9002 : 0 ≤ x2.toInt) (p9003 : x2.toInt ≤ 11)  : Ok (fun z => IvC 0 τ z.2) (fX6_compare_0 τ σ x1 x2) := by
  have hFU : ((FU : Nat) : Int) = 100000 := rfl
  unfold fX6_compare_0
  refine ok_bs (sX6_grow τ 25 16 σ x1 hI (by omega) (by omega) (by first | assumption | exact KeM.rf _ | exact FaC.a25 | exact FaC.a26) (by omega)) (fun r1 σ2 hr1 => ?_)
  have hr1 : IvC 0 τ σ2 := hr1
  refine ok_bs (sX6_grow τ 26 16 σ2 x2 hr1 (by omega) (by omega) (by first | assumption | exact KeM.rf _ | exact FaC.a25 | exact FaC.a26) (by omega)) (fun r4 σ5 hr3 => ?_)
  have hr3 : IvC 0 τ σ5 := hr3
  exact ok_some hr3

theorem sX6_compare (τ : Nat) (σ : S2) (a1 : Int32) (a2 : Int32) (hI : IvC 0 τ σ) (p9000 : 0 ≤ a1.toInt) (p9001 : a1.toInt ≤ 11) (p9002 : 0 ≤ a2.toInt) (p9003 : a2.toInt ≤ 11)  : Ok (fun z => IvC 0 τ z.2) (fX6_compare τ σ a1 a2) := by
  unfold fX6_compare
  exact sX6_compare_0 τ σ a1 a2 hI (by assumption) (by assumption) (by assumption) (by assumption)

theorem sX6_wordsAsked_49 (τ : Nat) (k6 : S2 → Int32 → Int32 → Int32 → Option Int32) (σ : S2) (x1 : Int32) (x2 : Int32) (x3 : Int32) (hI : IvC 0 τ σ) (p9000 : 1 ≤ x3.toInt) (p9001 : x3.toInt ≤ 7) (hk6 : ∀ (y0 : S2) (y1 : Int32) (y2 : Int32) (y3 : Int32), IvC 0 τ y0 → 1 ≤ y3.toInt → y3.toInt ≤ 8 → x3.toInt + 1 ≤ y3.toInt → Ok (fun z => True) (k6 y0 y1 y2 y3)) : Ok (fun z => True) (fX6_wordsAsked_49 τ k6 σ x1 x2 x3) := by
  have hFU : ((FU : Nat) : Int) = 100000 := rfl
  unfold fX6_wordsAsked_49
  have : (1 : Int32).toInt = 1 := by decide
  have : ((x3 + 1) : Int32).toInt = (x3 : Int32).toInt + (1 : Int32).toInt := i32_add (by omega) (by omega)
  refine ok_nmI (fun v1 hv1 he1 => ?_)
  have := i32_rng x1
  have := i32_rng x2
  exact hk6 σ x1 x2 v1 hI (by omega) (by omega) (by omega)

theorem sX6_wordsAsked_6 (τ : Nat) : ∀ (n : Nat) (σ : S2) (x1 : Int32) (x2 : Int32) (x3 : Int32), IvC 0 τ σ → 1 ≤ x3.toInt → x3.toInt ≤ 8 → 8 - x3.toInt < (n : Int) → Ok (fun z => True) (fX6_wordsAsked_6 τ n σ x1 x2 x3) := by
  have hFU : ((FU : Nat) : Int) = 100000 := rfl
  intro n
  induction n with
  | zero => intro σ x1 x2 x3 hI p9000 p9001 hm; exfalso; omega
  | succ n ih =>
    intro σ x1 x2 x3 hI p9000 p9001 hm
    unfold fX6_wordsAsked_6
    have : (8 : Int32).toInt = 8 := by decide
    refine ok_le (fun h1 => ?_) (fun h1 => ?_)
    · have := i32_rng x1
      exact ok_some trivial
    · have := i32_rng x2
      have : (31 : Int32).toInt = 31 := by decide
      have := i32_andR (a := x3) (m := 31) (by omega)
      have := i32_andL (a := x3) (m := 31) (by omega)
      have := i32_rng (x2 >>> (x3 &&& 31))
      have : (1 : Int32).toInt = 1 := by decide
      have := i32_andR (a := (x2 >>> (x3 &&& 31))) (m := 1) (by omega)
      have : (0 : Int32).toInt = 0 := by decide
      refine ok_eq (fun h2 => ?_) (fun h2 => ?_)
      · have := i32_rng x1
        exact sX6_wordsAsked_49 τ (fX6_wordsAsked_6 τ n) σ x1 x2 x3 hI (by omega) (by omega) (fun y0 y1 y2 y3 q0 q1 q2 q3 => ih y0 y1 y2 y3 q0 q1 q2 (by omega))
      · refine ok_ck (by omega) (by omega) ?_
        have := i32_rng (σ.1 25 (Int32.toNatClampNeg x3))
        refine ok_nmI (fun v2 hv2 he3 => ?_)
        refine ok_ck (by omega) (by omega) ?_
        have := i32_rng (σ.1 26 (Int32.toNatClampNeg x3))
        refine ok_nmI (fun v3 hv3 he4 => ?_)
        have := i32_rng v2
        have := i32_rng v3
        refine ok_eq (fun h5 => ?_) (fun h5 => ?_)
        · have := i32_rng x1
          exact sX6_wordsAsked_49 τ (fX6_wordsAsked_6 τ n) σ x1 x2 x3 hI (by omega) (by omega) (fun y0 y1 y2 y3 q0 q1 q2 q3 => ih y0 y1 y2 y3 q0 q1 q2 (by omega))
        · have := i32_rng x1
          have : (2 : Int32).toInt = 2 := by decide
          have := i32_rng (x1 + 2)
          refine ok_nmI (fun v4 hv4 he6 => ?_)
          have : (3 : Int32).toInt = 3 := by decide
          have : ((2 * x3) : Int32).toInt = 2 * (x3 : Int32).toInt := i32_mulL (by omega) (by omega) (by omega)
          have := i32_andR (a := (2 * x3)) (m := 31) (by omega)
          have := i32_andL (a := (2 * x3)) (m := 31) (by omega)
          have := i32_rng (3 <<< ((2 * x3) &&& 31))
          have := i32_rng (x2 ||| (3 <<< ((2 * x3) &&& 31)))
          refine ok_nmI (fun v5 hv5 he7 => ?_)
          have := i32_rng v4
          have := i32_rng v5
          exact sX6_wordsAsked_49 τ (fX6_wordsAsked_6 τ n) σ v4 v5 x3 hI (by omega) (by omega) (fun y0 y1 y2 y3 q0 q1 q2 q3 => ih y0 y1 y2 y3 q0 q1 q2 (by omega))

theorem sX6_wordsAsked_0 (τ : Nat) (σ : S2) (hI : IvC 0 τ σ)   : Ok (fun z => True) (fX6_wordsAsked_0 τ σ) := by
  have hFU : ((FU : Nat) : Int) = 100000 := rfl
  unfold fX6_wordsAsked_0
  have : (1 : Int32).toInt = 1 := by decide
  have : (2 : Int32).toInt = 2 := by decide
  exact sX6_wordsAsked_6 τ FU σ 1 2 1 hI (by omega) (by omega) (by omega)

theorem sX6_wordsAsked (τ : Nat) (σ : S2) (hI : IvC 0 τ σ)   : Ok (fun z => True) (fX6_wordsAsked τ σ) := by
  unfold fX6_wordsAsked
  exact sX6_wordsAsked_0 τ σ hI

theorem sX6_unlikeLeaves_29 (τ : Nat) (k5 : S2 → Int32 → Int32 → Option Int32) (σ : S2) (x1 : Int32) (x2 : Int32) (hI : IvC 0 τ σ) (p9000 : 8 ≤ x2.toInt) (p9001 : x2.toInt ≤ 15) (hk5 : ∀ (y0 : S2) (y1 : Int32) (y2 : Int32), IvC 0 τ y0 → 8 ≤ y2.toInt → y2.toInt ≤ 16 → x2.toInt + 1 ≤ y2.toInt → Ok (fun z => True) (k5 y0 y1 y2)) : Ok (fun z => True) (fX6_unlikeLeaves_29 τ k5 σ x1 x2) := by
  have hFU : ((FU : Nat) : Int) = 100000 := rfl
  unfold fX6_unlikeLeaves_29
  have : (1 : Int32).toInt = 1 := by decide
  have : ((x2 + 1) : Int32).toInt = (x2 : Int32).toInt + (1 : Int32).toInt := i32_add (by omega) (by omega)
  refine ok_nmI (fun v1 hv1 he1 => ?_)
  have := i32_rng x1
  exact hk5 σ x1 v1 hI (by omega) (by omega) (by omega)

theorem sX6_unlikeLeaves_5 (τ : Nat) : ∀ (n : Nat) (σ : S2) (x1 : Int32) (x2 : Int32), IvC 0 τ σ → 8 ≤ x2.toInt → x2.toInt ≤ 16 → 16 - x2.toInt < (n : Int) → Ok (fun z => True) (fX6_unlikeLeaves_5 τ n σ x1 x2) := by
  have hFU : ((FU : Nat) : Int) = 100000 := rfl
  intro n
  induction n with
  | zero => intro σ x1 x2 hI p9000 p9001 hm; exfalso; omega
  | succ n ih =>
    intro σ x1 x2 hI p9000 p9001 hm
    unfold fX6_unlikeLeaves_5
    have : (16 : Int32).toInt = 16 := by decide
    refine ok_le (fun h1 => ?_) (fun h1 => ?_)
    · have := i32_rng x1
      exact ok_some trivial
    · refine ok_ck (by omega) (by omega) ?_
      have := i32_rng (σ.1 25 (Int32.toNatClampNeg x2))
      refine ok_nmI (fun v2 hv2 he2 => ?_)
      refine ok_ck (by omega) (by omega) ?_
      have := i32_rng (σ.1 26 (Int32.toNatClampNeg x2))
      refine ok_nmI (fun v3 hv3 he3 => ?_)
      have := i32_rng v2
      have := i32_rng v3
      refine ok_eq (fun h4 => ?_) (fun h4 => ?_)
      · have := i32_rng x1
        exact sX6_unlikeLeaves_29 τ (fX6_unlikeLeaves_5 τ n) σ x1 x2 hI (by omega) (by omega) (fun y0 y1 y2 q0 q1 q2 q3 => ih y0 y1 y2 q0 q1 q2 (by omega))
      · have := i32_rng x1
        have : (1 : Int32).toInt = 1 := by decide
        have := i32_rng (x1 + 1)
        refine ok_nmI (fun v4 hv4 he5 => ?_)
        have := i32_rng v4
        exact sX6_unlikeLeaves_29 τ (fX6_unlikeLeaves_5 τ n) σ v4 x2 hI (by omega) (by omega) (fun y0 y1 y2 q0 q1 q2 q3 => ih y0 y1 y2 q0 q1 q2 (by omega))

