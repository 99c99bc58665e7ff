theorem sX3_readProduct_52 (r : Int) (τ : Nat) (qX3_readSum : S2 → Int32 → Option (Int32 × S2)) (qX3_readProduct : S2 → Int32 → Option (Int32 × S2)) (qX3_readOperand : S2 → Int32 → Option (Int32 × S2)) (qX3_readBracket : S2 → Int32 → Option (Int32 × S2)) (k8 : S2 → Int32 → Int32 → Int32 → Option (Int32 × S2)) (hqX3_readSum : ∀ (σ : S2) (a1 : Int32), IvC 0 τ σ → 0 ≤ a1.toInt → a1.toInt ≤ 4 → 0 ≤ (r - 1) → 19 - 4 * a1.toInt ≤ (r - 1) → Ok (fun z => IvC 0 τ z.2) (qX3_readSum σ a1)) (hqX3_readProduct : ∀ (σ : S2) (a1 : Int32), IvC 0 τ σ → 0 ≤ a1.toInt → a1.toInt ≤ 4 → 0 ≤ (r - 1) → 18 - 4 * a1.toInt ≤ (r - 1) → Ok (fun z => IvC 0 τ z.2) (qX3_readProduct σ a1)) (hqX3_readOperand : ∀ (σ : S2) (a1 : Int32), IvC 0 τ σ → 0 ≤ a1.toInt → a1.toInt ≤ 4 → 0 ≤ (r - 1) → 17 - 4 * a1.toInt ≤ (r - 1) → Ok (fun z => IvC 0 τ z.2) (qX3_readOperand σ a1)) (hqX3_readBracket : ∀ (σ : S2) (a1 : Int32), IvC 0 τ σ → 0 ≤ a1.toInt → a1.toInt ≤ 3 → 0 ≤ (r - 1) → 16 - 4 * a1.toInt ≤ (r - 1) → Ok (fun z => IvC 0 τ z.2) (qX3_readBracket σ a1)) (σ : S2) (x1 : Int32) (x2 : Int32) (x3 : Int32) (x4 : Int32) (hI : IvC 0 τ σ) (p9000 : 0 ≤ x1.toInt) (p9001 : x1.toInt ≤ 4) (p9002 : 0 ≤ x3.toInt) (p9003 : x3.toInt ≤ 79) (p9004 : 37 ≤ x4.toInt) (p9005 : x4.toInt ≤ 47) (p9006 : 0 ≤ r) (p9007 : 18 - 4 * x1.toInt ≤ r) (hk8 : ∀ (y0 : S2) (y1 : Int32) (y2 : Int32) (y3 : Int32), IvC 0 τ y0 → 0 ≤ y1.toInt → y1.toInt ≤ 4 → 0 ≤ y3.toInt → y3.toInt ≤ 80 → 0 ≤ r → 18 - 4 * y1.toInt ≤ r → x3.toInt + 1 ≤ y3.toInt → Ok (fun z => IvC 0 τ z.2) (k8 y0 y1 y2 y3)) : Ok (fun z => IvC 0 τ z.2) (fX3_readProduct_52 τ qX3_readSum qX3_readProduct qX3_readOperand qX3_readBracket k8 σ x1 x2 x3 x4) := by
  have hFU : ((FU : Nat) : Int) = 100000 := rfl
  unfold fX3_readProduct_52
  have := i32_rng (σ.1 13 2)
  have : (1 : Int32).toInt = 1 := by decide
  have := i32_rng ((σ.1 13 2) + 1)
  refine ok_nm (fun σ2 hs1 => ?_)
  have hI2 : IvC 0 τ σ2 := by rw [hs1]; exact IvC.wF hI (by decide) (by omega) (i32_rng _).1 (i32_rng _).2
  refine ok_bs (hqX3_readOperand σ2 x1 hI2 (by omega) (by omega) (by omega) (by omega)) (fun r3 σ4 hr3 => ?_)
  have hr3 : IvC 0 τ σ4 := hr3
  have : (42 : Int32).toInt = 42 := by decide
  refine ok_eq (fun h5 => ?_) (fun h5 => ?_)
  · have := i32_rng x2
    have := i32_rng r3
    have := i32_rng (x2 * r3)
    refine ok_nmI (fun v8 hv8 he6 => ?_)
    have := i32_rng v8
    exact sX3_readProduct_113 r τ qX3_readSum qX3_readProduct qX3_readOperand qX3_readBracket k8 hqX3_readSum hqX3_readProduct hqX3_readOperand hqX3_readBracket σ4 x1 v8 x3 hr3 (by omega) (by omega) (by omega) (by omega) (by omega) (by omega) (fun y0 y1 y2 y3 q0 q1 q2 q3 q4 q5 q6 q7 => hk8 y0 y1 y2 y3 q0 q1 q2 q3 q4 q5 q6 (by omega))
  · have := i32_rng r3
    have : (0 : Int32).toInt = 0 := by decide
    refine ok_eq (fun h7 => ?_) (fun h7 => ?_)
    · exact sX3_readProduct_113 r τ qX3_readSum qX3_readProduct qX3_readOperand qX3_readBracket k8 hqX3_readSum hqX3_readProduct hqX3_readOperand hqX3_readBracket σ4 x1 0 x3 hr3 (by omega) (by omega) (by omega) (by omega) (by omega) (by omega) (fun y0 y1 y2 y3 q0 q1 q2 q3 q4 q5 q6 q7 => hk8 y0 y1 y2 y3 q0 q1 q2 q3 q4 q5 q6 (by omega))
    · have : (47 : Int32).toInt = 47 := by decide
      refine ok_eq (fun h8 => ?_) (fun h8 => ?_)
      · refine ok_dz (by omega) ?_
        have := i32_rng x2
        have := i32_rng (x2 / r3)
        exact sX3_readProduct_112 r τ qX3_readSum qX3_readProduct qX3_readOperand qX3_readBracket k8 hqX3_readSum hqX3_readProduct hqX3_readOperand hqX3_readBracket σ4 x1 x3 (x2 / r3) hr3 (by omega) (by omega) (by omega) (by omega) (by omega) (by omega) (fun y0 y1 y2 y3 q0 q1 q2 q3 q4 q5 q6 q7 => hk8 y0 y1 y2 y3 q0 q1 q2 q3 q4 q5 q6 (by omega))
      · refine ok_dz (by omega) ?_
        have := i32_rng x2
        have := i32_rng (x2 - ((x2 / r3) * r3))
        exact sX3_readProduct_112 r τ qX3_readSum qX3_readProduct qX3_readOperand qX3_readBracket k8 hqX3_readSum hqX3_readProduct hqX3_readOperand hqX3_readBracket σ4 x1 x3 (x2 - ((x2 / r3) * r3)) hr3 (by omega) (by omega) (by omega) (by omega) (by omega) (by omega) (fun y0 y1 y2 y3 q0 q1 q2 q3 q4 q5 q6 q7 => hk8 y0 y1 y2 y3 q0 q1 q2 q3 q4 q5 q6 (by omega))

theorem sX3_readProduct_8 (r : Int) (τ : Nat) (qX3_readSum : S2 → Int32 → Option (Int32 × S2)) (qX3_readProduct : S2 → Int32 → Option (Int32 × S2)) (qX3_readOperand : S2 → Int32 → Option (Int32 × S2)) (qX3_readBracket : S2 → Int32 → Option (Int32 × S2)) (hqX3_readSum : ∀ (σ : S2) (a1 : Int32), IvC 0 τ σ → 0 ≤ a1.toInt → a1.toInt ≤ 4 → 0 ≤ (r - 1) → 19 - 4 * a1.toInt ≤ (r - 1) → Ok (fun z => IvC 0 τ z.2) (qX3_readSum σ a1)) (hqX3_readProduct : ∀ (σ : S2) (a1 : Int32), IvC 0 τ σ → 0 ≤ a1.toInt → a1.toInt ≤ 4 → 0 ≤ (r - 1) → 18 - 4 * a1.toInt ≤ (r - 1) → Ok (fun z => IvC 0 τ z.2) (qX3_readProduct σ a1)) (hqX3_readOperand : ∀ (σ : S2) (a1 : Int32), IvC 0 τ σ → 0 ≤ a1.toInt → a1.toInt ≤ 4 → 0 ≤ (r - 1) → 17 - 4 * a1.toInt ≤ (r - 1) → Ok (fun z => IvC 0 τ z.2) (qX3_readOperand σ a1)) (hqX3_readBracket : ∀ (σ : S2) (a1 : Int32), IvC 0 τ σ → 0 ≤ a1.toInt → a1.toInt ≤ 3 → 0 ≤ (r - 1) → 16 - 4 * a1.toInt ≤ (r - 1) → Ok (fun z => IvC 0 τ z.2) (qX3_readBracket σ a1)) : ∀ (n : Nat) (σ : S2) (x1 : Int32) (x2 : Int32) (x3 : Int32), IvC 0 τ σ → 0 ≤ x1.toInt → x1.toInt ≤ 4 → 0 ≤ x3.toInt → x3.toInt ≤ 80 → 0 ≤ r → 18 - 4 * x1.toInt ≤ r → 80 - x3.toInt < (n : Int) → Ok (fun z => IvC 0 τ z.2) (fX3_readProduct_8 τ qX3_readSum qX3_readProduct qX3_readOperand qX3_readBracket n σ x1 x2 x3) := by
  have hFU : ((FU : Nat) : Int) = 100000 := rfl
  intro n
  induction n with
  | zero => intro σ x1 x2 x3 hI p9000 p9001 p9002 p9003 p9004 p9005 hm; exfalso; omega
  | succ n ih =>
    intro σ x1 x2 x3 hI p9000 p9001 p9002 p9003 p9004 p9005 hm
    unfold fX3_readProduct_8
    have : (80 : Int32).toInt = 80 := by decide
    refine ok_le (fun h1 => ?_) (fun h1 => ?_)
    · have := i32_rng x2
      exact ok_some hI
    · have := i32_rng (σ.1 13 3)
      have : ((-1) : Int32).toInt = (-1) := by decide
      refine ok_eq (fun h2 => ?_) (fun h2 => ?_)
      · refine ok_bi (sX3_sign τ σ hI) (fun r9 hr3 => ?_)
        obtain ⟨p4, p5⟩ := hr3
        have p4 : (-1) ≤ r9.toInt := p4
        have p5 : r9.toInt ≤ 255 := p5
        have : (42 : Int32).toInt = 42 := by decide
        refine ok_eq (fun h6 => ?_) (fun h6 => ?_)
        · have := i32_rng x2
          exact sX3_readProduct_52 r τ qX3_readSum qX3_readProduct qX3_readOperand qX3_readBracket (fX3_readProduct_8 τ qX3_readSum qX3_readProduct qX3_readOperand qX3_readBracket n) hqX3_readSum hqX3_readProduct hqX3_readOperand hqX3_readBracket σ x1 x2 x3 r9 hI (by omega) (by omega) (by omega) (by omega) (by omega) (by omega) (by omega) (by omega) (fun y0 y1 y2 y3 q0 q1 q2 q3 q4 q5 q6 q7 => ih y0 y1 y2 y3 q0 q1 q2 q3 q4 q5 q6 (by omega))
        · have : (47 : Int32).toInt = 47 := by decide
          refine ok_eq (fun h7 => ?_) (fun h7 => ?_)
          · have := i32_rng x2
            exact sX3_readProduct_52 r τ qX3_readSum qX3_readProduct qX3_readOperand qX3_readBracket (fX3_readProduct_8 τ qX3_readSum qX3_readProduct qX3_readOperand qX3_readBracket n) hqX3_readSum hqX3_readProduct hqX3_readOperand hqX3_readBracket σ x1 x2 x3 r9 hI (by omega) (by omega) (by omega) (by omega) (by omega) (by omega) (by omega) (by omega) (fun y0 y1 y2 y3 q0 q1 q2 q3 q4 q5 q6 q7 => ih y0 y1 y2 y3 q0 q1 q2 q3 q4 q5 q6 (by omega))
          · have : (37 : Int32).toInt = 37 := by decide
            refine ok_eq (fun h8 => ?_) (fun h8 => ?_)
            · have := i32_rng x2
              exact sX3_readProduct_52 r τ qX3_readSum qX3_readProduct qX3_readOperand qX3_readBracket (fX3_readProduct_8 τ qX3_readSum qX3_readProduct qX3_readOperand qX3_readBracket n) hqX3_readSum hqX3_readProduct hqX3_readOperand hqX3_readBracket σ x1 x2 x3 r9 hI (by omega) (by omega) (by omega) (by omega) (by omega) (by omega) (by omega) (by omega) (fun y0 y1 y2 y3 q0 q1 q2 q3 q4 q5 q6 q7 => ih y0 y1 y2 y3 q0 q1 q2 q3 q4 q5 q6 (by omega))
            · have := i32_rng x2
              exact ok_some hI
      · have := i32_rng x2
        exact ok_some hI

theorem sX3_readProduct_0 (r : Int) (τ : Nat) (qX3_readSum : S2 → Int32 → Option (Int32 × S2)) (qX3_readProduct : S2 → Int32 → Option (Int32 × S2)) (qX3_readOperand : S2 → Int32 → Option (Int32 × S2)) (qX3_readBracket : S2 → Int32 → Option (Int32 × S2)) (hqX3_readSum : ∀ (σ : S2) (a1 : Int32), IvC 0 τ σ → 0 ≤ a1.toInt → a1.toInt ≤ 4 → 0 ≤ (r - 1) → 19 - 4 * a1.toInt ≤ (r - 1) → Ok (fun z => IvC 0 τ z.2) (qX3_readSum σ a1)) (hqX3_readProduct : ∀ (σ : S2) (a1 : Int32), IvC 0 τ σ → 0 ≤ a1.toInt → a1.toInt ≤ 4 → 0 ≤ (r - 1) → 18 - 4 * a1.toInt ≤ (r - 1) → Ok (fun z => IvC 0 τ z.2) (qX3_readProduct σ a1)) (hqX3_readOperand : ∀ (σ : S2) (a1 : Int32), IvC 0 τ σ → 0 ≤ a1.toInt → a1.toInt ≤ 4 → 0 ≤ (r - 1) → 17 - 4 * a1.toInt ≤ (r - 1) → Ok (fun z => IvC 0 τ z.2) (qX3_readOperand σ a1)) (hqX3_readBracket : ∀ (σ : S2) (a1 : Int32), IvC 0 τ σ → 0 ≤ a1.toInt → a1.toInt ≤ 3 → 0 ≤ (r - 1) → 16 - 4 * a1.toInt ≤ (r - 1) → Ok (fun z => IvC 0 τ z.2) (qX3_readBracket σ a1)) (σ : S2) (x1 : Int32) (hI : IvC 0 τ σ) (p9000 : 0 ≤ x1.toInt) (p9001 : x1.toInt ≤ 4) (p9002 : 0 ≤ r) (p9003 : 18 - 4 * x1.toInt ≤ r)  : Ok (fun z => IvC 0 τ z.2) (fX3_readProduct_0 τ qX3_readSum qX3_readProduct qX3_readOperand qX3_readBracket σ x1) := by
  have hFU : ((FU : Nat) : Int) = 100000 := rfl
  unfold fX3_readProduct_0
  refine ok_bs (hqX3_readOperand σ x1 hI (by omega) (by omega) (by omega) (by omega)) (fun r11 σ12 hr1 => ?_)
  have hr1 : IvC 0 τ σ12 := hr1
  have := i32_rng r11
  have : (0 : Int32).toInt = 0 := by decide
  exact sX3_readProduct_8 r τ qX3_readSum qX3_readProduct qX3_readOperand qX3_readBracket hqX3_readSum hqX3_readProduct hqX3_readOperand hqX3_readBracket FU σ12 x1 r11 0 hr1 (by omega) (by omega) (by omega) (by omega) (by omega) (by omega) (by omega)

theorem sX3_readOperand_122 (r : Int) (τ : Nat) (qX3_readSum : S2 → Int32 → Option (Int32 × S2)) (qX3_readProduct : S2 → Int32 → Option (Int32 × S2)) (qX3_readOperand : S2 → Int32 → Option (Int32 × S2)) (qX3_readBracket : S2 → Int32 → Option (Int32 × S2)) (hqX3_readSum : ∀ (σ : S2) (a1 : Int32), IvC 0 τ σ → 0 ≤ a1.toInt → a1.toInt ≤ 4 → 0 ≤ (r - 1) → 19 - 4 * a1.toInt ≤ (r - 1) → Ok (fun z => IvC 0 τ z.2) (qX3_readSum σ a1)) (hqX3_readProduct : ∀ (σ : S2) (a1 : Int32), IvC 0 τ σ → 0 ≤ a1.toInt → a1.toInt ≤ 4 → 0 ≤ (r - 1) → 18 - 4 * a1.toInt ≤ (r - 1) → Ok (fun z => IvC 0 τ z.2) (qX3_readProduct σ a1)) (hqX3_readOperand : ∀ (σ : S2) (a1 : Int32), IvC 0 τ σ → 0 ≤ a1.toInt → a1.toInt ≤ 4 → 0 ≤ (r - 1) → 17 - 4 * a1.toInt ≤ (r - 1) → Ok (fun z => IvC 0 τ z.2) (qX3_readOperand σ a1)) (hqX3_readBracket : ∀ (σ : S2) (a1 : Int32), IvC 0 τ σ → 0 ≤ a1.toInt → a1.toInt ≤ 3 → 0 ≤ (r - 1) → 16 - 4 * a1.toInt ≤ (r - 1) → Ok (fun z => IvC 0 τ z.2) (qX3_readBracket σ a1)) (σ : S2) (x3 : Int32) (hI : IvC 0 τ σ) (p9000 : 0 ≤ r)  : Ok (fun z => IvC 0 τ z.2) (fX3_readOperand_122 τ qX3_readSum qX3_readProduct qX3_readOperand qX3_readBracket σ x3) := by
  have hFU : ((FU : Nat) : Int) = 100000 := rfl
  unfold fX3_readOperand_122
  have := i32_rng (σ.1 13 2)
  have : (1 : Int32).toInt = 1 := by decide
  have := i32_rng ((σ.1 13 2) + 1)
  refine ok_nm (fun σ1 hs1 => ?_)
  have hI2 : IvC 0 τ σ1 := by rw [hs1]; exact IvC.wF hI (by decide) (by omega) (i32_rng _).1 (i32_rng _).2
  have := i32_rng x3
  exact ok_some hI2

theorem sX3_readOperand_34 (r : Int) (τ : Nat) (qX3_readSum : S2 → Int32 → Option (Int32 × S2)) (qX3_readProduct : S2 → Int32 → Option (Int32 × S2)) (qX3_readOperand : S2 → Int32 → Option (Int32 × S2)) (qX3_readBracket : S2 → Int32 → Option (Int32 × S2)) (hqX3_readSum : ∀ (σ : S2) (a1 : Int32), IvC 0 τ σ → 0 ≤ a1.toInt → a1.toInt ≤ 4 → 0 ≤ (r - 1) → 19 - 4 * a1.toInt ≤ (r - 1) → Ok (fun z => IvC 0 τ z.2) (qX3_readSum σ a1)) (hqX3_readProduct : ∀ (σ : S2) (a1 : Int32), IvC 0 τ σ → 0 ≤ a1.toInt → a1.toInt ≤ 4 → 0 ≤ (r - 1) → 18 - 4 * a1.toInt ≤ (r - 1) → Ok (fun z => IvC 0 τ z.2) (qX3_readProduct σ a1)) (hqX3_readOperand : ∀ (σ : S2) (a1 : Int32), IvC 0 τ σ → 0 ≤ a1.toInt → a1.toInt ≤ 4 → 0 ≤ (r - 1) → 17 - 4 * a1.toInt ≤ (r - 1) → Ok (fun z => IvC 0 τ z.2) (qX3_readOperand σ a1)) (hqX3_readBracket : ∀ (σ : S2) (a1 : Int32), IvC 0 τ σ → 0 ≤ a1.toInt → a1.toInt ≤ 3 → 0 ≤ (r - 1) → 16 - 4 * a1.toInt ≤ (r - 1) → Ok (fun z => IvC 0 τ z.2) (qX3_readBracket σ a1)) (σ : S2) (x2 : Int32) (hI : IvC 0 τ σ) (p9000 : (-1) ≤ x2.toInt) (p9001 : x2.toInt ≤ 255) (p9002 : 0 ≤ r)  : Ok (fun z => IvC 0 τ z.2) (fX3_readOperand_34 τ qX3_readSum qX3_readProduct qX3_readOperand qX3_readBracket σ x2) := by
  have hFU : ((FU : Nat) : Int) = 100000 := rfl
  unfold fX3_readOperand_34
  have : (110 : Int32).toInt = 110 := by decide
  refine ok_eq (fun h1 => ?_) (fun h1 => ?_)
  · have : 0 ≤ (σ.1 13 4).toInt ∧ (σ.1 13 4).toInt ≤ 63 := hI.1 13 4
    refine ok_nmI (fun v3 hv3 he2 => ?_)
    exact sX3_readOperand_122 r τ qX3_readSum qX3_readProduct qX3_readOperand qX3_readBracket hqX3_readSum hqX3_readProduct hqX3_readOperand hqX3_readBracket σ v3 hI (by omega)
  · have : (116 : Int32).toInt = 116 := by decide
    refine ok_eq (fun h3 => ?_) (fun h3 => ?_)
    · have := i32_rng (σ.1 13 6)
      refine ok_nmI (fun v5 hv5 he4 => ?_)
      have := i32_rng v5
      exact sX3_readOperand_122 r τ qX3_readSum qX3_readProduct qX3_readOperand qX3_readBracket hqX3_readSum hqX3_readProduct hqX3_readOperand hqX3_readBracket σ v5 hI (by omega)
    · have : (117 : Int32).toInt = 117 := by decide
      refine ok_eq (fun h5 => ?_) (fun h5 => ?_)
      · have : 0 ≤ (σ.1 13 5).toInt ∧ (σ.1 13 5).toInt ≤ 63 := hI.1 13 5
        refine ok_nmI (fun v7 hv7 he6 => ?_)
        exact sX3_readOperand_122 r τ qX3_readSum qX3_readProduct qX3_readOperand qX3_readBracket hqX3_readSum hqX3_readProduct hqX3_readOperand hqX3_readBracket σ v7 hI (by omega)
      · have : (120 : Int32).toInt = 120 := by decide
        refine ok_eq (fun h7 => ?_) (fun h7 => ?_)
        · have := i32_rng (σ.1 13 7)
          refine ok_nmI (fun v9 hv9 he8 => ?_)
          have := i32_rng v9
          exact sX3_readOperand_122 r τ qX3_readSum qX3_readProduct qX3_readOperand qX3_readBracket hqX3_readSum hqX3_readProduct hqX3_readOperand hqX3_readBracket σ v9 hI (by omega)
        · have := i32_rng (σ.1 13 2)
          refine ok_nm (fun σ10 hs9 => ?_)
          have hI10 : IvC 0 τ σ10 := by rw [hs9]; exact IvC.wF hI (by decide) (by omega) (i32_rng _).1 (i32_rng _).2
          have : (0 : Int32).toInt = 0 := by decide
          exact ok_some hI10

theorem sX3_readOperand_0 (r : Int) (τ : Nat) (qX3_readSum : S2 → Int32 → Option (Int32 × S2)) (qX3_readProduct : S2 → Int32 → Option (Int32 × S2)) (qX3_readOperand : S2 → Int32 → Option (Int32 × S2)) (qX3_readBracket : S2 → Int32 → Option (Int32 × S2)) (hqX3_readSum : ∀ (σ : S2) (a1 : Int32), IvC 0 τ σ → 0 ≤ a1.toInt → a1.toInt ≤ 4 → 0 ≤ (r - 1) → 19 - 4 * a1.toInt ≤ (r - 1) → Ok (fun z => IvC 0 τ z.2) (qX3_readSum σ a1)) (hqX3_readProduct : ∀ (σ : S2) (a1 : Int32), IvC 0 τ σ → 0 ≤ a1.toInt → a1.toInt ≤ 4 → 0 ≤ (r - 1) → 18 - 4 * a1.toInt ≤ (r - 1) → Ok (fun z => IvC 0 τ z.2) (qX3_readProduct σ a1)) (hqX3_readOperand : ∀ (σ : S2) (a1 : Int32), IvC 0 τ σ → 0 ≤ a1.toInt → a1.toInt ≤ 4 → 0 ≤ (r - 1) → 17 - 4 * a1.toInt ≤ (r - 1) → Ok (fun z => IvC 0 τ z.2) (qX3_readOperand σ a1)) (hqX3_readBracket : ∀ (σ : S2) (a1 : Int32), IvC 0 τ σ → 0 ≤ a1.toInt → a1.toInt ≤ 3 → 0 ≤ (r - 1) → 16 - 4 * a1.toInt ≤ (r - 1) → Ok (fun z => IvC 0 τ z.2) (qX3_readBracket σ a1)) (σ : S2) (x1 : Int32) (hI : IvC 0 τ σ) (p9000 : 0 ≤ x1.toInt) (p9001 : x1.toInt ≤ 4) (p9002 : 0 ≤ r) (p9003 : 17 - 4 * x1.toInt ≤ r)  : Ok (fun z => IvC 0 τ z.2) (fX3_readOperand_0 τ qX3_readSum qX3_readProduct qX3_readOperand qX3_readBracket σ x1) := by
  have hFU : ((FU : Nat) : Int) = 100000 := rfl
  unfold fX3_readOperand_0
  refine ok_bi (sX3_sign τ σ hI) (fun r11 hr1 => ?_)
  obtain ⟨p2, p3⟩ := hr1
  have p2 : (-1) ≤ r11.toInt := p2
  have p3 : r11.toInt ≤ 255 := p3
  refine ok_bi (sX3_isDigit τ σ r11 hI (by omega) (by omega)) (fun r13 hr4 => ?_)
  obtain ⟨p5, p6⟩ := hr4
  have p5 : 0 ≤ r13.toInt := p5
  have p6 : r13.toInt ≤ 1 := p6
  have : (0 : Int32).toInt = 0 := by decide
  refine ok_eq (fun h7 => ?_) (fun h7 => ?_)
  · have : (40 : Int32).toInt = 40 := by decide
    refine ok_eq (fun h8 => ?_) (fun h8 => ?_)
    · have : (4 : Int32).toInt = 4 := by decide
      refine ok_le (fun h9 => ?_) (fun h9 => ?_)
      · exact sX3_readOperand_34 r τ qX3_readSum qX3_readProduct qX3_readOperand qX3_readBracket hqX3_readSum hqX3_readProduct hqX3_readOperand hqX3_readBracket σ r11 hI (by omega) (by omega) (by omega)
      · refine ok_bs (hqX3_readBracket σ x1 hI (by omega) (by omega) (by omega) (by omega)) (fun r15 σ16 hr10 => ?_)
        have hr10 : IvC 0 τ σ16 := hr10
        have := i32_rng r15
        exact ok_some hr10
    · exact sX3_readOperand_34 r τ qX3_readSum qX3_readProduct qX3_readOperand qX3_readBracket hqX3_readSum hqX3_readProduct hqX3_readOperand hqX3_readBracket σ r11 hI (by omega) (by omega) (by omega)
  · refine ok_bs (sX3_readNumber τ σ hI) (fun r18 σ19 hr12 => ?_)
    have hr12 : IvC 0 τ σ19 := hr12
    have := i32_rng r18
    exact ok_some hr12

theorem sX3_readBracket_0 (r : Int) (τ : Nat) (qX3_readSum : S2 → Int32 → Option (Int32 × S2)) (qX3_readProduct : S2 → Int32 → Option (Int32 × S2)) (qX3_readOperand : S2 → Int32 → Option (Int32 × S2)) (qX3_readBracket : S2 → Int32 → Option (Int32 × S2)) (hqX3_readSum : ∀ (σ : S2) (a1 : Int32), IvC 0 τ σ → 0 ≤ a1.toInt → a1.toInt ≤ 4 → 0 ≤ (r - 1) → 19 - 4 * a1.toInt ≤ (r - 1) → Ok (fun z => IvC 0 τ z.2) (qX3_readSum σ a1)) (hqX3_readProduct : ∀ (σ : S2) (a1 : Int32), IvC 0 τ σ → 0 ≤ a1.toInt → a1.toInt ≤ 4 → 0 ≤ (r - 1) → 18 - 4 * a1.toInt ≤ (r - 1) → Ok (fun z => IvC 0 τ z.2) (qX3_readProduct σ a1)) (hqX3_readOperand : ∀ (σ : S2) (a1 : Int32), IvC 0 τ σ → 0 ≤ a1.toInt → a1.toInt ≤ 4 → 0 ≤ (r - 1) → 17 - 4 * a1.toInt ≤ (r - 1) → Ok (fun z => IvC 0 τ z.2) (qX3_readOperand σ a1)) (hqX3_readBracket : ∀ (σ : S2) (a1 : Int32), IvC 0 τ σ → 0 ≤ a1.toInt → a1.toInt ≤ 3 → 0 ≤ (r - 1) → 16 - 4 * a1.toInt ≤ (r - 1) → Ok (fun z => IvC 0 τ z.2) (qX3_readBracket σ a1)) (σ : S2) (x1 : Int32) (hI : IvC 0 τ σ) (p9000 : 0 ≤ x1.toInt) (p9001 : x1.toInt ≤ 3) (p9002 : 0 ≤ r) (p9003 : 16 - 4 * x1.toInt ≤ r)  : Ok (fun z => IvC 0 τ z.2) (fX3_readBracket_0 τ qX3_readSum qX3_readProduct qX3_readOperand qX3_readBracket σ x1) := by
  have hFU : ((FU : Nat) : Int) = 100000 := rfl
  unfold fX3_readBracket_0
  have := i32_rng (σ.1 13 2)
  have : (1 : Int32).toInt = 1 := by decide
  have := i32_rng ((σ.1 13 2) + 1)
  refine ok_nm (fun σ1 hs1 => ?_)
  have hI2 : IvC 0 τ σ1 := by rw [hs1]; exact IvC.wF hI (by decide) (by omega) (i32_rng _).1 (i32_rng _).2
  have : ((x1 + 1) : Int32).toInt = (x1 : Int32).toInt + (1 : Int32).toInt := i32_add (by omega) (by omega)
  refine ok_bs (hqX3_readSum σ1 (x1 + 1) hI2 (by omega) (by omega) (by omega) (by omega)) (fun r2 σ3 hr3 => ?_)
  have hr3 : IvC 0 τ σ3 := hr3
  have := i32_rng (σ3.1 13 3)
  have : ((-1) : Int32).toInt = (-1) := by decide
  refine ok_eq (fun h5 => ?_) (fun h5 => ?_)
  · refine ok_bi (sX3_sign τ σ3 hr3) (fun r5 hr6 => ?_)
    obtain ⟨p7, p8⟩ := hr6
    have p7 : (-1) ≤ r5.toInt := p7
    have p8 : r5.toInt ≤ 255 := p8
    have : (41 : Int32).toInt = 41 := by decide
    refine ok_eq (fun h9 => ?_) (fun h9 => ?_)
    · have := i32_rng (σ3.1 13 2)
      have := i32_rng ((σ3.1 13 2) + 1)
      refine ok_nm (fun σ8 hs10 => ?_)
      have hI11 : IvC 0 τ σ8 := by rw [hs10]; exact IvC.wF hr3 (by decide) (by omega) (i32_rng _).1 (i32_rng _).2
      have : (σ8.1 13 3).toInt = (σ3.1 13 3).toInt := by rw [hs10]; rfl
      have := i32_rng r2
      exact ok_some hI11
    · have := i32_rng (σ3.1 13 2)
      refine ok_nm (fun σ7 hs12 => ?_)
      have hI13 : IvC 0 τ σ7 := by rw [hs12]; exact IvC.wF hr3 (by decide) (by omega) (i32_rng _).1 (i32_rng _).2
      have : (σ7.1 13 3).toInt = ((σ3.1 13 2) : Int32).toInt := by rw [hs12]; rfl
      have := i32_rng r2
      exact ok_some hI13
  · have : (0 : Int32).toInt = 0 := by decide
    exact ok_some hr3

theorem sGX3_readSum (τ : Nat) : ∀ d : Nat, (∀ (r : Int) (σ : S2) (a1 : Int32), r < (d : Int) → IvC 0 τ σ → 0 ≤ a1.toInt → a1.toInt ≤ 4 → 0 ≤ r → 19 - 4 * a1.toInt ≤ r → Ok (fun z => IvC 0 τ z.2) (GX3_readSum τ d 0 σ a1)) ∧ (∀ (r : Int) (σ : S2) (a1 : Int32), r < (d : Int) → IvC 0 τ σ → 0 ≤ a1.toInt → a1.toInt ≤ 4 → 0 ≤ r → 18 - 4 * a1.toInt ≤ r → Ok (fun z => IvC 0 τ z.2) (GX3_readSum τ d 1 σ a1)) ∧ (∀ (r : Int) (σ : S2) (a1 : Int32), r < (d : Int) → IvC 0 τ σ → 0 ≤ a1.toInt → a1.toInt ≤ 4 → 0 ≤ r → 17 - 4 * a1.toInt ≤ r → Ok (fun z => IvC 0 τ z.2) (GX3_readSum τ d 2 σ a1)) ∧ (∀ (r : Int) (σ : S2) (a1 : Int32), r < (d : Int) → IvC 0 τ σ → 0 ≤ a1.toInt → a1.toInt ≤ 3 → 0 ≤ r → 16 - 4 * a1.toInt ≤ r → Ok (fun z => IvC 0 τ z.2) (GX3_readSum τ d 3 σ a1)) := by
  intro d
  induction d with
  | zero => exact ⟨(fun r σ a1 hd hI p0 p1 p2 p3 => by exfalso; omega), (fun r σ a1 hd hI p0 p1 p2 p3 => by exfalso; omega), (fun r σ a1 hd hI p0 p1 p2 p3 => by exfalso; omega), (fun r σ a1 hd hI p0 p1 p2 p3 => by exfalso; omega)⟩
  | succ d ih =>
    exact ⟨(fun r σ a1 hd hI p0 p1 p2 p3 => sX3_readSum_0  r  τ (GX3_readSum τ d 0) (GX3_readSum τ d 1) (GX3_readSum τ d 2) (GX3_readSum τ d 3) (fun σ a1 hI p0 p1 p2 p3 => ih.1 (r - 1) σ a1 (by omega) hI p0 p1 p2 p3) (fun σ a1 hI p0 p1 p2 p3 => ih.2.1 (r - 1) σ a1 (by omega) hI p0 p1 p2 p3) (fun σ a1 hI p0 p1 p2 p3 => ih.2.2.1 (r - 1) σ a1 (by omega) hI p0 p1 p2 p3) (fun σ a1 hI p0 p1 p2 p3 => ih.2.2.2 (r - 1) σ a1 (by omega) hI p0 p1 p2 p3) σ a1 hI p0 p1 p2 p3), (fun r σ a1 hd hI p0 p1 p2 p3 => sX3_readProduct_0  r  τ (GX3_readSum τ d 0) (GX3_readSum τ d 1) (GX3_readSum τ d 2) (GX3_readSum τ d 3) (fun σ a1 hI p0 p1 p2 p3 => ih.1 (r - 1) σ a1 (by omega) hI p0 p1 p2 p3) (fun σ a1 hI p0 p1 p2 p3 => ih.2.1 (r - 1) σ a1 (by omega) hI p0 p1 p2 p3) (fun σ a1 hI p0 p1 p2 p3 => ih.2.2.1 (r - 1) σ a1 (by omega) hI p0 p1 p2 p3) (fun σ a1 hI p0 p1 p2 p3 => ih.2.2.2 (r - 1) σ a1 (by omega) hI p0 p1 p2 p3) σ a1 hI p0 p1 p2 p3), (fun r σ a1 hd hI p0 p1 p2 p3 => sX3_readOperand_0  r  τ (GX3_readSum τ d 0) (GX3_readSum τ d 1) (GX3_readSum τ d 2) (GX3_readSum τ d 3) (fun σ a1 hI p0 p1 p2 p3 => ih.1 (r - 1) σ a1 (by omega) hI p0 p1 p2 p3) (fun σ a1 hI p0 p1 p2 p3 => ih.2.1 (r - 1) σ a1 (by omega) hI p0 p1 p2 p3) (fun σ a1 hI p0 p1 p2 p3 => ih.2.2.1 (r - 1) σ a1 (by omega) hI p0 p1 p2 p3) (fun σ a1 hI p0 p1 p2 p3 => ih.2.2.2 (r - 1) σ a1 (by omega) hI p0 p1 p2 p3) σ a1 hI p0 p1 p2 p3), (fun r σ a1 hd hI p0 p1 p2 p3 => sX3_readBracket_0  r  τ (GX3_readSum τ d 0) (GX3_readSum τ d 1) (GX3_readSum τ d 2) (GX3_readSum τ d 3) (fun σ a1 hI p0 p1 p2 p3 => ih.1 (r - 1) σ a1 (by omega) hI p0 p1 p2 p3) (fun σ a1 hI p0 p1 p2 p3 => ih.2.1 (r - 1) σ a1 (by omega) hI p0 p1 p2 p3) (fun σ a1 hI p0 p1 p2 p3 => ih.2.2.1 (r - 1) σ a1 (by omega) hI p0 p1 p2 p3) (fun σ a1 hI p0 p1 p2 p3 => ih.2.2.2 (r - 1) σ a1 (by omega) hI p0 p1 p2 p3) σ a1 hI p0 p1 p2 p3)⟩
theorem sX3_readSum (τ : Nat)  (σ : S2) (a1 : Int32) (hI : IvC 0 τ σ) (p9000 : 0 ≤ a1.toInt) (p9001 : a1.toInt ≤ 4) : Ok (fun z => IvC 0 τ z.2) (fX3_readSum τ σ a1) := by
  exact (sGX3_readSum τ 24).1 20  σ a1 (by decide) hI p9000 p9001 (by omega) (by omega)

theorem sX3_readProduct (τ : Nat)  (σ : S2) (a1 : Int32) (hI : IvC 0 τ σ) (p9000 : 0 ≤ a1.toInt) (p9001 : a1.toInt ≤ 4) : Ok (fun z => IvC 0 τ z.2) (fX3_readProduct τ σ a1) := by
  exact (sGX3_readSum τ 24).2.1 20  σ a1 (by decide) hI p9000 p9001 (by omega) (by omega)

theorem sX3_readOperand (τ : Nat)  (σ : S2) (a1 : Int32) (hI : IvC 0 τ σ) (p9000 : 0 ≤ a1.toInt) (p9001 : a1.toInt ≤ 4) : Ok (fun z => IvC 0 τ z.2) (fX3_readOperand τ σ a1) := by
  exact (sGX3_readSum τ 24).2.2.1 20  σ a1 (by decide) hI p9000 p9001 (by omega) (by omega)

theorem sX3_readBracket (τ : Nat)  (σ : S2) (a1 : Int32) (hI : IvC 0 τ σ) (p9000 : 0 ≤ a1.toInt) (p9001 : a1.toInt ≤ 3) : Ok (fun z => IvC 0 τ z.2) (fX3_readBracket τ σ a1) := by
  exact (sGX3_readSum τ 24).2.2.2 20  σ a1 (by decide) hI p9000 p9001 (by omega) (by omega)

theorem sX3_heldWithin_0 (τ : Nat) (σ : S2) (x0 : Int32) (hI : IvC 0 τ σ)   : Ok (fun z => 1 ≤ z.toInt ∧ z.toInt ≤ 4) (fX3_heldWithin_0 τ σ x0) := by
  have hFU : ((FU : Nat) : Int) = 100000 := rfl
  unfold fX3_heldWithin_0
  have : (1 : Int32).toInt = 1 := by decide
  have := i32_rng x0
  have : (4 : Int32).toInt = 4 := by decide
  have := i32_iflt x0 (4 : Int32) x0 (4 : Int32)
  have := i32_iflt (1 : Int32) (if (x0 < 4) then x0 else 4) (if (x0 < 4) then x0 else 4) (1 : Int32)
  exact ok_some ⟨by show 1 ≤ (if (1 < (if (x0 < 4) then x0 else 4)) then (if (x0 < 4) then x0 else 4) else 1).toInt; omega, by show (if (1 < (if (x0 < 4) then x0 else 4)) then (if (x0 < 4) then x0 else 4) else 1).toInt ≤ 4; omega⟩

theorem sX3_heldWithin (τ : Nat) (σ : S2) (a0 : Int32) (hI : IvC 0 τ σ)   : Ok (fun z => 1 ≤ z.toInt ∧ z.toInt ≤ 4) (fX3_heldWithin τ σ a0) := by
  unfold fX3_heldWithin
  exact sX3_heldWithin_0 τ σ a0 hI

theorem sX3_readWay_17 (τ : Nat) (σ : S2) (hI : IvC 0 τ σ)   : Ok (fun z => IvC 0 τ z.2 ∧ 0 ≤ z.1.toInt ∧ z.1.toInt ≤ 2) (fX3_readWay_17 τ σ) := by
  have hFU : ((FU : Nat) : Int) = 100000 := rfl
  unfold fX3_readWay_17
  have := i32_rng (σ.1 13 2)
  refine ok_nm (fun σ1 hs1 => ?_)
  have hI2 : IvC 0 τ σ1 := by rw [hs1]; exact IvC.wF hI (by decide) (by omega) (i32_rng _).1 (i32_rng _).2
  have : (0 : Int32).toInt = 0 := by decide
  exact ok_some ⟨hI2, by show 0 ≤ (0 : Int32).toInt; omega, by show (0 : Int32).toInt ≤ 2; omega⟩

theorem sX3_readWay_0 (τ : Nat) (σ : S2) (hI : IvC 0 τ σ)   : Ok (fun z => IvC 0 τ z.2 ∧ 0 ≤ z.1.toInt ∧ z.1.toInt ≤ 2) (fX3_readWay_0 τ σ) := by
  have hFU : ((FU : Nat) : Int) = 100000 := rfl
  unfold fX3_readWay_0
  refine ok_bi (sX3_sign τ σ hI) (fun r2 hr1 => ?_)
  obtain ⟨p2, p3⟩ := hr1
  have p2 : (-1) ≤ r2.toInt := p2
  have p3 : r2.toInt ≤ 255 := p3
  have : (48 : Int32).toInt = 48 := by decide
  have : ((r2 - 48) : Int32).toInt = (r2 : Int32).toInt - (48 : Int32).toInt := i32_sub (by omega) (by omega)
  refine ok_nmI (fun v4 hv4 he4 => ?_)
  have : (0 : Int32).toInt = 0 := by decide
  refine ok_lt (fun h5 => ?_) (fun h5 => ?_)
  · exact sX3_readWay_17 τ σ hI
  · have : (2 : Int32).toInt = 2 := by decide
    refine ok_le (fun h6 => ?_) (fun h6 => ?_)
    · have := i32_rng (σ.1 13 2)
      have : (1 : Int32).toInt = 1 := by decide
      have := i32_rng ((σ.1 13 2) + 1)
      refine ok_nm (fun σ5 hs7 => ?_)
      have hI8 : IvC 0 τ σ5 := by rw [hs7]; exact IvC.wF hI (by decide) (by omega) (i32_rng _).1 (i32_rng _).2
      exact ok_some ⟨hI8, by show 0 ≤ v4.toInt; omega, by show v4.toInt ≤ 2; omega⟩
    · exact sX3_readWay_17 τ σ hI

theorem sX3_readWay (τ : Nat) (σ : S2) (hI : IvC 0 τ σ)   : Ok (fun z => IvC 0 τ z.2 ∧ 0 ≤ z.1.toInt ∧ z.1.toInt ≤ 2) (fX3_readWay τ σ) := by
  unfold fX3_readWay
  exact sX3_readWay_0 τ σ hI

theorem sX3_readPart_50 (τ : Nat) (σ : S2) (hI : IvC 0 τ σ)   : Ok (fun z => IvC 0 τ z.2 ∧ 0 ≤ z.1.toInt ∧ z.1.toInt ≤ 4) (fX3_readPart_50 τ σ) := by
  have hFU : ((FU : Nat) : Int) = 100000 := rfl
  unfold fX3_readPart_50
  have := i32_rng (σ.1 13 2)
  refine ok_nm (fun σ1 hs1 => ?_)
  have hI2 : IvC 0 τ σ1 := by rw [hs1]; exact IvC.wF hI (by decide) (by omega) (i32_rng _).1 (i32_rng _).2
  have : (0 : Int32).toInt = 0 := by decide
  exact ok_some ⟨hI2, by show 0 ≤ (0 : Int32).toInt; omega, by show (0 : Int32).toInt ≤ 4; omega⟩

theorem sX3_readPart_36 (τ : Nat) (σ : S2) (x2 : Int32) (x3 : Int32) (s0 : Int32) (hI : IvC 0 τ σ) (p9000 : 0 ≤ x2.toInt) (p9001 : x2.toInt ≤ 7) (p9002 : (-1) ≤ x3.toInt) (p9003 : x3.toInt ≤ 255) (p9004 : 0 ≤ s0.toInt) (p9005 : s0.toInt ≤ 4)  : Ok (fun z => IvC 0 τ z.2 ∧ 0 ≤ z.1.toInt ∧ z.1.toInt ≤ 4) (fX3_readPart_36 τ σ x2 x3 s0) := by
  have hFU : ((FU : Nat) : Int) = 100000 := rfl
  unfold fX3_readPart_36
  have : (0 : Int32).toInt = 0 := by decide
  refine ok_eq (fun h1 => ?_) (fun h1 => ?_)
  · exact sX3_readPart_50 τ σ hI
  · have := i32_andR (a := x2) (m := s0) (by omega)
    have := i32_andL (a := x2) (m := s0) (by omega)
    refine ok_eq (fun h2 => ?_) (fun h2 => ?_)
    · have := i32_rng (σ.1 13 2)
      have : (1 : Int32).toInt = 1 := by decide
      have := i32_rng ((σ.1 13 2) + 1)
      refine ok_nm (fun σ2 hs3 => ?_)
      have hI4 : IvC 0 τ σ2 := by rw [hs3]; exact IvC.wF hI (by decide) (by omega) (i32_rng _).1 (i32_rng _).2
      refine ok_bi (sX3_sign τ σ2 hI4) (fun r3 hr5 => ?_)
      obtain ⟨p6, p7⟩ := hr5
      have p6 : (-1) ≤ r3.toInt := p6
      have p7 : r3.toInt ≤ 255 := p7
      have : (32 : Int32).toInt = 32 := by decide
      refine ok_eq (fun h8 => ?_) (fun h8 => ?_)
      · have := i32_rng (σ2.1 13 2)
        have := i32_rng ((σ2.1 13 2) + 1)
        refine ok_nm (fun σ5 hs9 => ?_)
        have hI10 : IvC 0 τ σ5 := by rw [hs9]; exact IvC.wF hI4 (by decide) (by omega) (i32_rng _).1 (i32_rng _).2
        have : (σ5.1 13 2).toInt = (((σ2.1 13 2) + 1) : Int32).toInt := by rw [hs9]; rfl
        have : (99 : Int32).toInt = 99 := by decide
        refine ok_eq (fun h11 => ?_) (fun h11 => ?_)
        · refine ok_bs (sX3_readSum τ σ5 0 hI10 (by omega) (by omega)) (fun r16 σ17 hr12 => ?_)
          have hr12 : IvC 0 τ σ17 := hr12
          have := i32_rng r16
          refine ok_bi (sX3_heldWithin τ σ17 r16 hr12) (fun r19 hr14 => ?_)
          obtain ⟨p15, p16⟩ := hr14
          have p15 : 1 ≤ r19.toInt := p15
          have p16 : r19.toInt ≤ 4 := p16
          refine ok_nm (fun σ21 hs17 => ?_)
          have hI18 : IvC 0 τ σ21 := by rw [hs17]; exact IvC.wT0 (b := 0) hr12 (by decide) (show 1 ≤ (r19 : Int32).toInt by omega) (show (r19 : Int32).toInt ≤ 4 by omega)
          exact ok_some ⟨hI18, by show 0 ≤ s0.toInt; omega, by show s0.toInt ≤ 4; omega⟩
        · have : (115 : Int32).toInt = 115 := by decide
          refine ok_eq (fun h19 => ?_) (fun h19 => ?_)
          · refine ok_bs (sX3_readSum τ σ5 0 hI10 (by omega) (by omega)) (fun r10 σ11 hr20 => ?_)
            have hr20 : IvC 0 τ σ11 := hr20
            have := i32_rng r10
            refine ok_bi (sX3_heldWithin τ σ11 r10 hr20) (fun r13 hr22 => ?_)
            obtain ⟨p23, p24⟩ := hr22
            have p23 : 1 ≤ r13.toInt := p23
            have p24 : r13.toInt ≤ 4 := p24
            refine ok_nm (fun σ15 hs25 => ?_)
            have hI26 : IvC 0 τ σ15 := by rw [hs25]; exact IvC.wT0 (b := 0) hr20 (by decide) (show 1 ≤ (r13 : Int32).toInt by omega) (show (r13 : Int32).toInt ≤ 4 by omega)
            exact ok_some ⟨hI26, by show 0 ≤ s0.toInt; omega, by show s0.toInt ≤ 4; omega⟩
          · refine ok_bs (sX3_readWay τ σ5 hI10) (fun r6 σ7 hr27 => ?_)
            obtain ⟨p28, p29, p30⟩ := hr27
            have p28 : IvC 0 τ σ7 := p28
            have p29 : 0 ≤ r6.toInt := p29
            have p30 : r6.toInt ≤ 2 := p30
            refine ok_nm (fun σ9 hs31 => ?_)
            have hI32 : IvC 0 τ σ9 := by rw [hs31]; exact IvC.wT0 (b := 0) p28 (by decide) (show 0 ≤ (r6 : Int32).toInt by omega) (show (r6 : Int32).toInt ≤ 2 by omega)
            exact ok_some ⟨hI32, by show 0 ≤ s0.toInt; omega, by show s0.toInt ≤ 4; omega⟩
      · have := i32_rng (σ2.1 13 2)
        refine ok_nm (fun σ22 hs33 => ?_)
        have hI34 : IvC 0 τ σ22 := by rw [hs33]; exact IvC.wF hI4 (by decide) (by omega) (i32_rng _).1 (i32_rng _).2
        have : (σ22.1 13 2).toInt = (σ2.1 13 2).toInt := by rw [hs33]; rfl
        exact ok_some ⟨hI34, by show 0 ≤ (0 : Int32).toInt; omega, by show (0 : Int32).toInt ≤ 4; omega⟩
    · exact sX3_readPart_50 τ σ hI

theorem sX3_readPart_0 (τ : Nat) (σ : S2) (x2 : Int32) (hI : IvC 0 τ σ) (p9000 : 0 ≤ x2.toInt) (p9001 : x2.toInt ≤ 7)  : Ok (fun z => IvC 0 τ z.2 ∧ 0 ≤ z.1.toInt ∧ z.1.toInt ≤ 4) (fX3_readPart_0 τ σ x2) := by
  have hFU : ((FU : Nat) : Int) = 100000 := rfl
  unfold fX3_readPart_0
  refine ok_bi (sX3_sign τ σ hI) (fun r23 hr1 => ?_)
  obtain ⟨p2, p3⟩ := hr1
  have p2 : (-1) ≤ r23.toInt := p2
  have p3 : r23.toInt ≤ 255 := p3
  have : (99 : Int32).toInt = 99 := by decide
  refine ok_eq (fun h4 => ?_) (fun h4 => ?_)
  · have : (1 : Int32).toInt = 1 := by decide
    exact sX3_readPart_36 τ σ x2 r23 1 hI (by omega) (by omega) (by omega) (by omega) (by omega) (by omega)
  · have : (115 : Int32).toInt = 115 := by decide
    refine ok_eq (fun h5 => ?_) (fun h5 => ?_)
    · have : (2 : Int32).toInt = 2 := by decide
      exact sX3_readPart_36 τ σ x2 r23 2 hI (by omega) (by omega) (by omega) (by omega) (by omega) (by omega)
    · have : (112 : Int32).toInt = 112 := by decide
      refine ok_eq (fun h6 => ?_) (fun h6 => ?_)
      · have : (4 : Int32).toInt = 4 := by decide
        exact sX3_readPart_36 τ σ x2 r23 4 hI (by omega) (by omega) (by omega) (by omega) (by omega) (by omega)
      · have : (0 : Int32).toInt = 0 := by decide
        exact sX3_readPart_36 τ σ x2 r23 0 hI (by omega) (by omega) (by omega) (by omega) (by omega) (by omega)

theorem sX3_readPart (τ : Nat) (σ : S2) (a2 : Int32) (hI : IvC 0 τ σ) (p9000 : 0 ≤ a2.toInt) (p9001 : a2.toInt ≤ 7)  : Ok (fun z => IvC 0 τ z.2 ∧ 0 ≤ z.1.toInt ∧ z.1.toInt ≤ 4) (fX3_readPart τ σ a2) := by
  unfold fX3_readPart
  exact sX3_readPart_0 τ σ a2 hI (by assumption) (by assumption)

theorem sX3_workOut_141 (τ : Nat) (σ : S2) (hI : IvC 0 τ σ)   : Ok (fun z => IvC 0 τ z.2) (fX3_workOut_141 τ σ) := by
  have hFU : ((FU : Nat) : Int) = 100000 := rfl
  unfold fX3_workOut_141
  have := i32_rng (σ.1 13 3)
  exact ok_some hI

theorem sX3_workOut_135 (τ : Nat) (k52 : S2 → Int32 → Int32 → Option (Int32 × S2)) (σ : S2) (x3 : Int32) (x4 : Int32) (hI : IvC 0 τ σ) (p9000 : 0 ≤ x3.toInt) (p9001 : x3.toInt ≤ 7) (p9002 : 0 ≤ x4.toInt) (p9003 : x4.toInt ≤ 2) (hk52 : ∀ (y0 : S2) (y1 : Int32) (y2 : Int32), IvC 0 τ y0 → 0 ≤ y1.toInt → y1.toInt ≤ 7 → 0 ≤ y2.toInt → y2.toInt ≤ 3 → x4.toInt + 1 ≤ y2.toInt → Ok (fun z => IvC 0 τ z.2) (k52 y0 y1 y2)) : Ok (fun z => IvC 0 τ z.2) (fX3_workOut_135 τ k52 σ x3 x4) := by
  have hFU : ((FU : Nat) : Int) = 100000 := rfl
  unfold fX3_workOut_135
  have : (1 : Int32).toInt = 1 := by decide
  have : ((x4 + 1) : Int32).toInt = (x4 : Int32).toInt + (1 : Int32).toInt := i32_add (by omega) (by omega)
  refine ok_nmI (fun v1 hv1 he1 => ?_)
  exact hk52 σ x3 v1 hI (by omega) (by omega) (by omega) (by omega) (by omega)

theorem sX3_workOut_127 (τ : Nat) (k52 : S2 → Int32 → Int32 → Option (Int32 × S2)) (σ : S2) (x3 : Int32) (x4 : Int32) (hI : IvC 0 τ σ) (p9000 : 0 ≤ x3.toInt) (p9001 : x3.toInt ≤ 7) (p9002 : 0 ≤ x4.toInt) (p9003 : x4.toInt ≤ 2) (hk52 : ∀ (y0 : S2) (y1 : Int32) (y2 : Int32), IvC 0 τ y0 → 0 ≤ y1.toInt → y1.toInt ≤ 7 → 0 ≤ y2.toInt → y2.toInt ≤ 3 → x4.toInt + 1 ≤ y2.toInt → Ok (fun z => IvC 0 τ z.2) (k52 y0 y1 y2)) : Ok (fun z => IvC 0 τ z.2) (fX3_workOut_127 τ k52 σ x3 x4) := by
  have hFU : ((FU : Nat) : Int) = 100000 := rfl
  unfold fX3_workOut_127
  have := i32_rng (σ.1 13 2)
  refine ok_nm (fun σ2 hs1 => ?_)
  have hI2 : IvC 0 τ σ2 := by rw [hs1]; exact IvC.wF hI (by decide) (by omega) (i32_rng _).1 (i32_rng _).2
  exact sX3_workOut_135 τ k52 σ2 x3 x4 hI2 (by omega) (by omega) (by omega) (by omega) (fun y0 y1 y2 q0 q1 q2 q3 q4 q5 => hk52 y0 y1 y2 q0 q1 q2 q3 q4 (by omega))

theorem sX3_workOut_52 (τ : Nat) : ∀ (n : Nat) (σ : S2) (x3 : Int32) (x4 : Int32), IvC 0 τ σ → 0 ≤ x3.toInt → x3.toInt ≤ 7 → 0 ≤ x4.toInt → x4.toInt ≤ 3 → 3 - x4.toInt < (n : Int) → Ok (fun z => IvC 0 τ z.2) (fX3_workOut_52 τ n σ x3 x4) := by
  have hFU : ((FU : Nat) : Int) = 100000 := rfl
  intro n
  induction n with
  | zero => intro σ x3 x4 hI p9000 p9001 p9002 p9003 hm; exfalso; omega
  | succ n ih =>
    intro σ x3 x4 hI p9000 p9001 p9002 p9003 hm
    unfold fX3_workOut_52
    have : (3 : Int32).toInt = 3 := by decide
    refine ok_le (fun h1 => ?_) (fun h1 => ?_)
    · exact sX3_workOut_141 τ σ hI
    · have := i32_rng (σ.1 13 3)
      have : ((-1) : Int32).toInt = (-1) := by decide
      refine ok_eq (fun h2 => ?_) (fun h2 => ?_)
      · refine ok_bs (sX3_readPart τ σ x3 hI (by omega) (by omega)) (fun r3 σ4 hr3 => ?_)
        obtain ⟨p4, p5, p6⟩ := hr3
        have p4 : IvC 0 τ σ4 := p4
        have p5 : 0 ≤ r3.toInt := p5
        have p6 : r3.toInt ≤ 4 := p6
        have := i32_orB (a := x3) (b := r3) 3 7 (by decide) (by decide) (by omega) (by omega) (by omega) (by omega)
        refine ok_nmI (fun v6 hv6 he7 => ?_)
        have := i32_rng (σ4.1 13 3)
        refine ok_eq (fun h8 => ?_) (fun h8 => ?_)
        · have := i32_rng (σ4.1 13 2)
          have : 0 ≤ (σ4.1 13 1).toInt ∧ (σ4.1 13 1).toInt ≤ 80 := p4.1 13 1
          refine ok_lt (fun h9 => ?_) (fun h9 => ?_)
          · refine ok_bi (sX3_sign τ σ4 p4) (fun r7 hr10 => ?_)
            obtain ⟨p11, p12⟩ := hr10
            have p11 : (-1) ≤ r7.toInt := p11
            have p12 : r7.toInt ≤ 255 := p12
            have : (59 : Int32).toInt = 59 := by decide
            refine ok_eq (fun h13 => ?_) (fun h13 => ?_)
            · have : (1 : Int32).toInt = 1 := by decide
              have : ((x4 + 1) : Int32).toInt = (x4 : Int32).toInt + (1 : Int32).toInt := i32_add (by omega) (by omega)
              refine ok_le (fun h14 => ?_) (fun h14 => ?_)
              · exact sX3_workOut_127 τ (fX3_workOut_52 τ n) σ4 v6 x4 p4 (by omega) (by omega) (by omega) (by omega) (fun y0 y1 y2 q0 q1 q2 q3 q4 q5 => ih y0 y1 y2 q0 q1 q2 q3 q4 (by omega))
              · have : (((σ4.1 13 2) + 1) : Int32).toInt = ((σ4.1 13 2) : Int32).toInt + (1 : Int32).toInt := i32_add (by omega) (by omega)
                refine ok_nm (fun σ9 hs15 => ?_)
                have hI16 : IvC 0 τ σ9 := by rw [hs15]; exact IvC.wF p4 (by decide) (by omega) (i32_rng _).1 (i32_rng _).2
                have : (σ9.1 13 3).toInt = (σ4.1 13 3).toInt := by rw [hs15]; rfl
                have : (σ9.1 13 2).toInt = (((σ4.1 13 2) + 1) : Int32).toInt := by rw [hs15]; rfl
                have : (σ9.1 13 1).toInt = (σ4.1 13 1).toInt := by rw [hs15]; rfl
                exact sX3_workOut_135 τ (fX3_workOut_52 τ n) σ9 v6 x4 hI16 (by omega) (by omega) (by omega) (by omega) (fun y0 y1 y2 q0 q1 q2 q3 q4 q5 => ih y0 y1 y2 q0 q1 q2 q3 q4 (by omega))
            · exact sX3_workOut_127 τ (fX3_workOut_52 τ n) σ4 v6 x4 p4 (by omega) (by omega) (by omega) (by omega) (fun y0 y1 y2 q0 q1 q2 q3 q4 q5 => ih y0 y1 y2 q0 q1 q2 q3 q4 (by omega))
          · exact sX3_workOut_141 τ σ4 p4
        · exact sX3_workOut_141 τ σ4 p4
      · exact sX3_workOut_141 τ σ hI

theorem sX3_workOut_0 (τ : Nat) (σ : S2) (hI : IvC 0 τ σ)   : Ok (fun z => IvC 0 τ z.2) (fX3_workOut_0 τ σ) := by
  have hFU : ((FU : Nat) : Int) = 100000 := rfl
  unfold fX3_workOut_0
  have : (1 : Int32).toInt = 1 := by decide
  refine ok_nm (fun σ10 hs1 => ?_)
  have hI2 : IvC 0 τ σ10 := by rw [hs1]; exact IvC.wF hI (by decide) (by omega) (show 0 ≤ (1 : Int32).toInt by omega) (show (1 : Int32).toInt ≤ 1 by omega)
  have : 0 ≤ (σ10.1 182 6).toInt ∧ (σ10.1 182 6).toInt ≤ 80 := hI2.1.t0 0 6
  refine ok_nm (fun σ11 hs3 => ?_)
  have hI4 : IvC 0 τ σ11 := by rw [hs3]; exact IvC.wF hI2 (by decide) (by omega) (show 0 ≤ ((σ10.1 182 6) : Int32).toInt by omega) (show ((σ10.1 182 6) : Int32).toInt ≤ 80 by omega)
  have : (σ11.1 13 0).toInt = (σ10.1 13 0).toInt := by rw [hs3]; rfl
  have : (0 : Int32).toInt = 0 := by decide
  refine ok_nm (fun σ12 hs5 => ?_)
  have hI6 : IvC 0 τ σ12 := by rw [hs5]; exact IvC.wF hI4 (by decide) (by omega) (i32_rng _).1 (i32_rng _).2
  have : (σ12.1 13 0).toInt = (σ11.1 13 0).toInt := by rw [hs5]; rfl
  have : (σ12.1 13 1).toInt = (σ11.1 13 1).toInt := by rw [hs5]; rfl
  have : ((-1) : Int32).toInt = (-1) := by decide
  refine ok_nm (fun σ13 hs7 => ?_)
  have hI8 : IvC 0 τ σ13 := by rw [hs7]; exact IvC.wF hI6 (by decide) (by omega) (i32_rng _).1 (i32_rng _).2
  have : (σ13.1 13 0).toInt = (σ12.1 13 0).toInt := by rw [hs7]; rfl
  have : (σ13.1 13 1).toInt = (σ12.1 13 1).toInt := by rw [hs7]; rfl
  have : (σ13.1 13 2).toInt = (σ12.1 13 2).toInt := by rw [hs7]; rfl
  refine ok_bs (sX3_look τ σ13 hI8) (fun r14 σ15 hr9 => ?_)
  have hr9 : IvC 0 τ σ15 := hr9
  have : (2 : Int32).toInt = 2 := by decide
  refine ok_nm (fun σ17 hs11 => ?_)
  have hI12 : IvC 0 τ σ17 := by rw [hs11]; exact IvC.wT0 (b := 0) hr9 (by decide) (show 1 ≤ (2 : Int32).toInt by omega) (show (2 : Int32).toInt ≤ 4 by omega)
  refine ok_nm (fun σ18 hs13 => ?_)
  have hI14 : IvC 0 τ σ18 := by rw [hs13]; exact IvC.wT0 (b := 0) hI12 (by decide) (show 1 ≤ (1 : Int32).toInt by omega) (show (1 : Int32).toInt ≤ 4 by omega)
  have : (σ18.1 182 2).toInt = (σ17.1 182 2).toInt := by rw [hs13]; rfl
  refine ok_nm (fun σ19 hs15 => ?_)
  have hI16 : IvC 0 τ σ19 := by rw [hs15]; exact IvC.wT0 (b := 0) hI14 (by decide) (show 0 ≤ (0 : Int32).toInt by omega) (show (0 : Int32).toInt ≤ 2 by omega)
  have : (σ19.1 182 2).toInt = (σ18.1 182 2).toInt := by rw [hs15]; rfl
  have : (σ19.1 182 3).toInt = (σ18.1 182 3).toInt := by rw [hs15]; rfl
  exact sX3_workOut_52 τ FU σ19 0 0 hI16 (by omega) (by omega) (by omega) (by omega) (by omega)

theorem sX3_workOut (τ : Nat) (σ : S2) (hI : IvC 0 τ σ)   : Ok (fun z => IvC 0 τ z.2) (fX3_workOut τ σ) := by
  unfold fX3_workOut
  exact sX3_workOut_0 τ σ hI

theorem sX4_has_0 (τ : Nat) (σ : S2) (x1 : Int32) (hI : IvC 0 τ σ)   : Ok (fun z => 0 ≤ z.toInt ∧ z.toInt ≤ 1 ∧ (z.toInt ≠ 0 → 0 ≤ x1.toInt ∧ x1.toInt < (σ.1 3 3).toInt)) (fX4_has_0 τ σ x1) := by
  have hFU : ((FU : Nat) : Int) = 100000 := rfl
  unfold fX4_has_0
  have := i32_rng x1
  have : (0 : Int32).toInt = 0 := by decide
  refine ok_lt (fun h1 => ?_) (fun h1 => ?_)
  · exact ok_some ⟨by show 0 ≤ (0 : Int32).toInt; omega, by show (0 : Int32).toInt ≤ 1; omega, by show (0 : Int32).toInt ≠ 0 → 0 ≤ x1.toInt ∧ x1.toInt < (σ.1 3 3).toInt; omega⟩
  · have : 0 ≤ (σ.1 3 3).toInt ∧ (σ.1 3 3).toInt ≤ 40 := hI.1 3 3
    refine ok_le (fun h2 => ?_) (fun h2 => ?_)
    · exact ok_some ⟨by show 0 ≤ (0 : Int32).toInt; omega, by show (0 : Int32).toInt ≤ 1; omega, by show (0 : Int32).toInt ≠ 0 → 0 ≤ x1.toInt ∧ x1.toInt < (σ.1 3 3).toInt; omega⟩
    · have : (1 : Int32).toInt = 1 := by decide
      exact ok_some ⟨by show 0 ≤ (1 : Int32).toInt; omega, by show (1 : Int32).toInt ≤ 1; omega, by show (1 : Int32).toInt ≠ 0 → 0 ≤ x1.toInt ∧ x1.toInt < (σ.1 3 3).toInt; omega⟩

theorem sX4_has (τ : Nat) (σ : S2) (a1 : Int32) (hI : IvC 0 τ σ)   : Ok (fun z => 0 ≤ z.toInt ∧ z.toInt ≤ 1 ∧ (z.toInt ≠ 0 → 0 ≤ a1.toInt ∧ a1.toInt < (σ.1 3 3).toInt)) (fX4_has τ σ a1) := by
  unfold fX4_has
  exact sX4_has_0 τ σ a1 hI

theorem sX4_isAlike_3 (τ : Nat) (c0 : Nat) (n0 : Nat) (c1 : Nat) (n1 : Nat) : ∀ (n : Nat) (σ : S2) (x2 : Int32) (x3 : Int32) (x4 : Int32), IvC 0 τ σ → 0 ≤ x2.toInt → x2.toInt ≤ 0 → 1 ≤ x3.toInt → x3.toInt ≤ 6 → 0 ≤ x4.toInt → x4.toInt ≤ 6 → x2.toInt + x3.toInt ≤ (n1 : Int) → x3.toInt ≤ (n0 : Int) → 6 - x4.toInt < (n : Int) → Ok (fun z => 0 ≤ z.toInt ∧ z.toInt ≤ 1) (fX4_isAlike_3 τ c0 n0 c1 n1 n σ x2 x3 x4) := by
  have hFU : ((FU : Nat) : Int) = 100000 := rfl
  intro n
  induction n with
  | zero => intro σ x2 x3 x4 hI p9000 p9001 p9002 p9003 p9004 p9005 p9006 p9007 hm; exfalso; omega
  | succ n ih =>
    intro σ x2 x3 x4 hI p9000 p9001 p9002 p9003 p9004 p9005 p9006 p9007 hm
    unfold fX4_isAlike_3
    refine ok_le (fun h1 => ?_) (fun h1 => ?_)
    · have : (1 : Int32).toInt = 1 := by decide
      exact ok_some ⟨by show 0 ≤ (1 : Int32).toInt; omega, by show (1 : Int32).toInt ≤ 1; omega⟩
    · refine ok_ck (by omega) (by omega) ?_
      have := i32_rng (σ.1 c0 (Int32.toNatClampNeg x4))
      refine ok_nmI (fun v1 hv1 he2 => ?_)
      have : ((x2 + x4) : Int32).toInt = (x2 : Int32).toInt + (x4 : Int32).toInt := i32_add (by omega) (by omega)
      refine ok_ck (by omega) (by omega) ?_
      have := i32_rng (σ.1 c1 (Int32.toNatClampNeg (x2 + x4)))
      refine ok_nmI (fun v2 hv2 he3 => ?_)
      have := i32_rng v1
      have := i32_rng v2
      refine ok_eq (fun h4 => ?_) (fun h4 => ?_)
      · have : (1 : Int32).toInt = 1 := by decide
        have : ((x4 + 1) : Int32).toInt = (x4 : Int32).toInt + (1 : Int32).toInt := i32_add (by omega) (by omega)
        refine ok_nmI (fun v3 hv3 he5 => ?_)
        exact ih σ x2 x3 v3 hI (by omega) (by omega) (by omega) (by omega) (by omega) (by omega) (by omega) (by omega) (by omega)
      · have : (0 : Int32).toInt = 0 := by decide
        exact ok_some ⟨by show 0 ≤ (0 : Int32).toInt; omega, by show (0 : Int32).toInt ≤ 1; omega⟩

theorem sX4_isAlike_0 (τ : Nat) (c0 : Nat) (n0 : Nat) (c1 : Nat) (n1 : Nat) (σ : S2) (x2 : Int32) (x3 : Int32) (hI : IvC 0 τ σ) (p9000 : 0 ≤ x2.toInt) (p9001 : x2.toInt ≤ 0) (p9002 : 1 ≤ x3.toInt) (p9003 : x3.toInt ≤ 6) (p9004 : x2.toInt + x3.toInt ≤ (n1 : Int)) (p9005 : x3.toInt ≤ (n0 : Int))  : Ok (fun z => 0 ≤ z.toInt ∧ z.toInt ≤ 1) (fX4_isAlike_0 τ c0 n0 c1 n1 σ x2 x3) := by
  have hFU : ((FU : Nat) : Int) = 100000 := rfl
  unfold fX4_isAlike_0
  have : (0 : Int32).toInt = 0 := by decide
  exact sX4_isAlike_3 τ c0 n0 c1 n1 FU σ x2 x3 0 hI (by omega) (by omega) (by omega) (by omega) (by omega) (by omega) (by omega) (by omega) (by omega)

theorem sX4_isAlike (τ : Nat) (c0 : Nat) (n0 : Nat) (c1 : Nat) (n1 : Nat) (σ : S2) (a2 : Int32) (a3 : Int32) (hI : IvC 0 τ σ) (p9000 : 0 ≤ a2.toInt) (p9001 : a2.toInt ≤ 0) (p9002 : 1 ≤ a3.toInt) (p9003 : a3.toInt ≤ 6) (p9004 : a2.toInt + a3.toInt ≤ (n1 : Int)) (p9005 : a3.toInt ≤ (n0 : Int))  : Ok (fun z => 0 ≤ z.toInt ∧ z.toInt ≤ 1) (fX4_isAlike τ c0 n0 c1 n1 σ a2 a3) := by
  unfold fX4_isAlike
  exact sX4_isAlike_0 τ c0 n0 c1 n1 σ a2 a3 hI (by assumption) (by assumption) (by assumption) (by assumption) (by assumption) (by assumption)

theorem sX4_find_42 (τ : Nat) (c1 : Nat) (n1 : Nat) (k3 : S2 → Int32 → Int32 → Int32 → Option Int32) (σ : S2) (x2 : Int32) (x3 : Int32) (x4 : Int32) (hI : IvC 0 τ σ) (p9000 : 0 ≤ x2.toInt) (p9001 : x2.toInt ≤ 0) (p9002 : 1 ≤ x3.toInt) (p9003 : x3.toInt ≤ 6) (p9004 : 0 ≤ x4.toInt) (p9005 : x4.toInt ≤ 39) (p9006 : x2.toInt + x3.toInt ≤ (n1 : Int)) (hk3 : ∀ (y0 : S2) (y1 : Int32) (y2 : Int32) (y3 : Int32), IvC 0 τ y0 → 0 ≤ y1.toInt → y1.toInt ≤ 0 → 1 ≤ y2.toInt → y2.toInt ≤ 6 → 0 ≤ y3.toInt → y3.toInt ≤ 40 → y1.toInt + y2.toInt ≤ (n1 : Int) → x4.toInt + 1 ≤ y3.toInt → Ok (fun z => (-1) ≤ z.toInt ∧ z.toInt ≤ 39) (k3 y0 y1 y2 y3)) : Ok (fun z => (-1) ≤ z.toInt ∧ z.toInt ≤ 39) (fX4_find_42 τ c1 n1 k3 σ x2 x3 x4) := by
  have hFU : ((FU : Nat) : Int) = 100000 := rfl
  unfold fX4_find_42
  have : (1 : Int32).toInt = 1 := by decide
  have : ((x4 + 1) : Int32).toInt = (x4 : Int32).toInt + (1 : Int32).toInt := i32_add (by omega) (by omega)
  refine ok_nmI (fun v1 hv1 he1 => ?_)
  exact hk3 σ x2 x3 v1 hI (by omega) (by omega) (by omega) (by omega) (by omega) (by omega) (by omega) (by omega)

theorem sX4_find_3 (τ : Nat) (c1 : Nat) (n1 : Nat) : ∀ (n : Nat) (σ : S2) (x2 : Int32) (x3 : Int32) (x4 : Int32), IvC 0 τ σ → 0 ≤ x2.toInt → x2.toInt ≤ 0 → 1 ≤ x3.toInt → x3.toInt ≤ 6 → 0 ≤ x4.toInt → x4.toInt ≤ 40 → x2.toInt + x3.toInt ≤ (n1 : Int) → 40 - x4.toInt < (n : Int) → Ok (fun z => (-1) ≤ z.toInt ∧ z.toInt ≤ 39) (fX4_find_3 τ c1 n1 n σ x2 x3 x4) := by
  have hFU : ((FU : Nat) : Int) = 100000 := rfl
  intro n
  induction n with
  | zero => intro σ x2 x3 x4 hI p9000 p9001 p9002 p9003 p9004 p9005 p9006 hm; exfalso; omega
  | succ n ih =>
    intro σ x2 x3 x4 hI p9000 p9001 p9002 p9003 p9004 p9005 p9006 hm
    unfold fX4_find_3
    have : 0 ≤ (σ.1 3 3).toInt ∧ (σ.1 3 3).toInt ≤ 40 := hI.1 3 3
    refine ok_le (fun h1 => ?_) (fun h1 => ?_)
    · have : ((-1) : Int32).toInt = (-1) := by decide
      exact ok_some ⟨by show (-1) ≤ ((-1) : Int32).toInt; omega, by show ((-1) : Int32).toInt ≤ 39; omega⟩
    · refine ok_ck (by omega) (by omega) ?_
      have : 0 ≤ (σ.1 5 (Int32.toNatClampNeg x4)).toInt ∧ (σ.1 5 (Int32.toNatClampNeg x4)).toInt ≤ 6 := hI.1 5 (Int32.toNatClampNeg x4)
      refine ok_nmI (fun v2 hv2 he2 => ?_)
      refine ok_eq (fun h3 => ?_) (fun h3 => ?_)
      · refine ok_ck (by omega) (by omega) ?_
        refine ok_bi (sX4_isAlike τ (44 + (Int32.toNatClampNeg x4)) 6 c1 n1 σ x2 x3 hI (by omega) (by omega) (by omega) (by omega) (by omega) (by omega)) (fun r4 hr4 => ?_)
        obtain ⟨p5, p6⟩ := hr4
        have p5 : 0 ≤ r4.toInt := p5
        have p6 : r4.toInt ≤ 1 := p6
        have : (0 : Int32).toInt = 0 := by decide
        refine ok_eq (fun h7 => ?_) (fun h7 => ?_)
        · exact sX4_find_42 τ c1 n1 (fX4_find_3 τ c1 n1 n) σ x2 x3 x4 hI (by omega) (by omega) (by omega) (by omega) (by omega) (by omega) (by omega) (fun y0 y1 y2 y3 q0 q1 q2 q3 q4 q5 q6 q7 q8 => ih y0 y1 y2 y3 q0 q1 q2 q3 q4 q5 q6 q7 (by omega))
        · exact ok_some ⟨by show (-1) ≤ x4.toInt; omega, by show x4.toInt ≤ 39; omega⟩
      · exact sX4_find_42 τ c1 n1 (fX4_find_3 τ c1 n1 n) σ x2 x3 x4 hI (by omega) (by omega) (by omega) (by omega) (by omega) (by omega) (by omega) (fun y0 y1 y2 y3 q0 q1 q2 q3 q4 q5 q6 q7 q8 => ih y0 y1 y2 y3 q0 q1 q2 q3 q4 q5 q6 q7 (by omega))

theorem sX4_find_0 (τ : Nat) (c1 : Nat) (n1 : Nat) (σ : S2) (x2 : Int32) (x3 : Int32) (hI : IvC 0 τ σ) (p9000 : 0 ≤ x2.toInt) (p9001 : x2.toInt ≤ 0) (p9002 : 1 ≤ x3.toInt) (p9003 : x3.toInt ≤ 6) (p9004 : x2.toInt + x3.toInt ≤ (n1 : Int))  : Ok (fun z => (-1) ≤ z.toInt ∧ z.toInt ≤ 39) (fX4_find_0 τ c1 n1 σ x2 x3) := by
  have hFU : ((FU : Nat) : Int) = 100000 := rfl
  unfold fX4_find_0
  have : (0 : Int32).toInt = 0 := by decide
  exact sX4_find_3 τ c1 n1 FU σ x2 x3 0 hI (by omega) (by omega) (by omega) (by omega) (by omega) (by omega) (by omega) (by omega)

theorem sX4_find (τ : Nat) (c1 : Nat) (n1 : Nat) (σ : S2) (a2 : Int32) (a3 : Int32) (hI : IvC 0 τ σ) (p9000 : 0 ≤ a2.toInt) (p9001 : a2.toInt ≤ 0) (p9002 : 1 ≤ a3.toInt) (p9003 : a3.toInt ≤ 6) (p9004 : a2.toInt + a3.toInt ≤ (n1 : Int))  : Ok (fun z => (-1) ≤ z.toInt ∧ z.toInt ≤ 39) (fX4_find τ c1 n1 σ a2 a3) := by
  unfold fX4_find
  exact sX4_find_0 τ c1 n1 σ a2 a3 hI (by assumption) (by assumption) (by assumption) (by assumption) (by assumption)

theorem add_ok {τ c1 n1 : Nat} {σ : S2} {a2 a3 : Int32} (hI : IvC 0 τ σ) (h2 : 0 ≤ a2.toInt) (h3 : 0 ≤ a3.toInt) (h6 : a3.toInt ≤ 6) (hn : a2.toInt + a3.toInt ≤ (n1 : Int)) (hc : ByC c1) : Ok (fun z => IvC 0 τ z.2 ∧ (-1) ≤ z.1.toInt ∧ z.1.toInt ≤ 39) (fX4_add τ c1 n1 σ a2 a3) := by
  have z0 : (0 : Int32).toInt = 0 := rfl
  have one : (1 : Int32).toInt = 1 := rfl
  have m1 : ((-1 : Int32)).toInt = -1 := by decide
  have e40 : (40 : Int32).toInt = 40 := rfl
  have hk : 0 ≤ (σ.1 3 3).toInt ∧ (σ.1 3 3).toInt ≤ 40 := hI.1 3 3
  have en := i32_nat (i := (σ.1 3 3)) (by omega)
  unfold fX4_add fX4_add_0
  refine ok_lt (fun hlt => ?_) (fun _ => ok_some ⟨hI, by show (-1 : Int) ≤ (-1 : Int32).toInt; omega, by show (-1 : Int32).toInt ≤ 39; omega⟩)
  have hb : ∀ i, -128 ≤ (σ.1 c1 i).toInt ∧ (σ.1 c1 i).toInt ≤ 127 := fun i => by
    have := hI.1 c1 i; have := hc i; omega
  refine ok_ck (by omega) (by omega) (ok_cp h2 (by omega) h3 hn (by omega) (fun i => fit_byte (hb i).1 (hb i).2) ?_)
  refine ok_nm (fun σ2 hs2 => ?_)
  have hI2 : IvC 0 τ σ2 := by
    rw [hs2]
    refine hI.wB (by omega) (fun b => ⟨by omega, by omega, by omega⟩) (fun i => ?_)
    rw [loC_r0 _ i (by omega), hiC_r0 _ i (by omega)]
    exact cpy_in hb (fun i => hI.1.r0 _ i (by omega)) i
  have e2 : σ2.1 3 3 = σ.1 3 3 := by rw [hs2, ux_I_ne (by omega)]
  rw [e2]
  refine ok_ck (by omega) (by omega) (ok_nm (fun σ3 hs3 => ok_nm (fun σ4 hs4 => ?_)))
  have hI3 : IvC 0 τ σ3 := by rw [hs3]; exact hI2.wF (by decide) (by omega) (show (0 : Int) ≤ a3.toInt by omega) (show a3.toInt ≤ 6 by omega)
  have e3 : σ3.1 3 3 = σ.1 3 3 := by rw [hs3, ux_wI_ne (by rintro ⟨q, _⟩; exact absurd q (by decide)), e2]
  have ea : ((σ3.1 3 3) + 1).toInt = (σ.1 3 3).toInt + 1 := by rw [e3, i32_add (by omega) (by omega), one]
  have hI4 : IvC 0 τ σ4 := by rw [hs4]; exact hI3.wF (by decide) (by omega) (show (0 : Int) ≤ ((σ3.1 3 3) + 1).toInt by omega) (show ((σ3.1 3 3) + 1).toInt ≤ 40 by omega)
  have e4 : σ4.1 3 3 = (σ3.1 3 3) + 1 := by rw [hs4, ux_wI_eq]
  have es : ((σ4.1 3 3) - 1).toInt = (σ.1 3 3).toInt := by rw [e4, i32_sub (by omega) (by omega), one]; omega
  exact ok_some ⟨hI4, by show (-1 : Int) ≤ ((σ4.1 3 3) - 1).toInt; omega, by show ((σ4.1 3 3) - 1).toInt ≤ 39; omega⟩
theorem sX4_add (τ : Nat) (c1 : Nat) (n1 : Nat) (σ : S2) (a2 : Int32) (a3 : Int32) (hI : IvC 0 τ σ) (p9000 : 0 ≤ a2.toInt) (p9001 : a2.toInt ≤ 0) (p9002 : 1 ≤ a3.toInt) (p9003 : a3.toInt ≤ 6) (p9004 : a2.toInt + a3.toInt ≤ (n1 : Int)) (p9005 : ByC c1)  : Ok (fun z => IvC 0 τ z.2 ∧ (-1) ≤ z.1.toInt ∧ z.1.toInt ≤ 39) (fX4_add τ c1 n1 σ a2 a3) := by
  exact add_ok hI (by omega) (by omega) (by omega) (by omega) (by assumption)

theorem sX4_placeOf_5 (τ : Nat) : ∀ (n : Nat) (σ : S2) (x1 : Int32) (x3 : Int32) (x4 : Int32), IvC 0 τ σ → 0 ≤ x1.toInt → x1.toInt ≤ 39 → 0 ≤ x4.toInt → x4.toInt ≤ 6 → 6 - x4.toInt < (n : Int) → Ok (fun z => 0 ≤ z.toInt ∧ z.toInt ≤ 999) (fX4_placeOf_5 τ n σ x1 x3 x4) := by
  have hFU : ((FU : Nat) : Int) = 100000 := rfl
  intro n
  induction n with
  | zero => intro σ x1 x3 x4 hI p9000 p9001 p9002 p9003 hm; exfalso; omega
  | succ n ih =>
    intro σ x1 x3 x4 hI p9000 p9001 p9002 p9003 hm
    unfold fX4_placeOf_5
    refine ok_ck (by omega) (by omega) ?_
    have : 0 ≤ (σ.1 5 (Int32.toNatClampNeg x1)).toInt ∧ (σ.1 5 (Int32.toNatClampNeg x1)).toInt ≤ 6 := hI.1 5 (Int32.toNatClampNeg x1)
    refine ok_nmI (fun v1 hv1 he1 => ?_)
    refine ok_le (fun h2 => ?_) (fun h2 => ?_)
    · have : (1000 : Int32).toInt = 1000 := by decide
      refine ok_dz (by omega) ?_
      have : 0 ≤ ((UInt32.toInt32 ((Int32.toUInt32 x3) >>> ((Int32.toUInt32 7) &&& (Int32.toUInt32 31)))) : Int32).toInt ∧ ((UInt32.toInt32 ((Int32.toUInt32 x3) >>> ((Int32.toUInt32 7) &&& (Int32.toUInt32 31)))) : Int32).toInt ≤ 33554431 := i32_ushr 7 (by decide) (by decide)
      have : (((UInt32.toInt32 ((Int32.toUInt32 x3) >>> ((Int32.toUInt32 7) &&& (Int32.toUInt32 31)))) - (((UInt32.toInt32 ((Int32.toUInt32 x3) >>> ((Int32.toUInt32 7) &&& (Int32.toUInt32 31)))) / 1000) * 1000)) : Int32).toInt = ((UInt32.toInt32 ((Int32.toUInt32 x3) >>> ((Int32.toUInt32 7) &&& (Int32.toUInt32 31)))) : Int32).toInt % 1000 := i32_rem (by first | decide | omega | rfl) (by omega) (by omega)
      exact ok_some ⟨by show 0 ≤ ((UInt32.toInt32 ((Int32.toUInt32 x3) >>> ((Int32.toUInt32 7) &&& (Int32.toUInt32 31)))) - (((UInt32.toInt32 ((Int32.toUInt32 x3) >>> ((Int32.toUInt32 7) &&& (Int32.toUInt32 31)))) / 1000) * 1000)).toInt; omega, by show ((UInt32.toInt32 ((Int32.toUInt32 x3) >>> ((Int32.toUInt32 7) &&& (Int32.toUInt32 31)))) - (((UInt32.toInt32 ((Int32.toUInt32 x3) >>> ((Int32.toUInt32 7) &&& (Int32.toUInt32 31)))) / 1000) * 1000)).toInt ≤ 999; omega⟩
    · refine ok_ck (by omega) (by omega) ?_
      refine ok_ck (by omega) (by omega) ?_
      have : (-128) ≤ (σ.1 (44 + (Int32.toNatClampNeg x1)) (Int32.toNatClampNeg x4)).toInt ∧ (σ.1 (44 + (Int32.toNatClampNeg x1)) (Int32.toNatClampNeg x4)).toInt ≤ 127 := hI.1.r0 _ _ (by have := i32_nat (i := x1) (by omega); omega)
      refine ok_nmI (fun v4 hv4 he3 => ?_)
      have := i32_rng x3
      have : (255 : Int32).toInt = 255 := by decide
      have := i32_andR (a := v4) (m := 255) (by omega)
      have := i32_rng (x3 ^^^ (v4 &&& 255))
      have : (16777619 : Int32).toInt = 16777619 := by decide
      have := i32_rng ((x3 ^^^ (v4 &&& 255)) * 16777619)
      refine ok_nmI (fun v5 hv5 he4 => ?_)
      have : (1 : Int32).toInt = 1 := by decide
      have : ((x4 + 1) : Int32).toInt = (x4 : Int32).toInt + (1 : Int32).toInt := i32_add (by omega) (by omega)
      refine ok_nmI (fun v6 hv6 he5 => ?_)
      have := i32_rng v5
      exact ih σ x1 v5 v6 hI (by omega) (by omega) (by omega) (by omega) (by omega)

theorem sX4_placeOf_0 (τ : Nat) (σ : S2) (x1 : Int32) (x2 : Int32) (hI : IvC 0 τ σ) (p9000 : 0 ≤ x1.toInt) (p9001 : x1.toInt ≤ 39)  : Ok (fun z => 0 ≤ z.toInt ∧ z.toInt ≤ 999) (fX4_placeOf_0 τ σ x1 x2) := by
  have hFU : ((FU : Nat) : Int) = 100000 := rfl
  unfold fX4_placeOf_0
  have := i32_rng x2
  have : (0 : Int32).toInt = 0 := by decide
  exact sX4_placeOf_5 τ FU σ x1 x2 0 hI (by omega) (by omega) (by omega) (by omega) (by omega)

theorem sX4_placeOf (τ : Nat) (σ : S2) (a1 : Int32) (a2 : Int32) (hI : IvC 0 τ σ) (p9000 : 0 ≤ a1.toInt) (p9001 : a1.toInt ≤ 39)  : Ok (fun z => 0 ≤ z.toInt ∧ z.toInt ≤ 999) (fX4_placeOf τ σ a1 a2) := by
  unfold fX4_placeOf
  exact sX4_placeOf_0 τ σ a1 a2 hI (by assumption) (by assumption)

theorem sX4_addFrom_153 (τ : Nat) (c1 : Nat) (n1 : Nat) (k9 : S2 → Int32 → Int32 → Int32 → Int32 → Int32 → Option (Int32 × S2)) (σ : S2) (x2 : Int32) (x4 : Int32) (x5 : Int32) (x6 : Int32) (x7 : Int32) (hI : IvC 0 τ σ) (p9000 : 1 ≤ x2.toInt) (p9001 : x2.toInt ≤ 60) (p9002 : 1 ≤ x4.toInt) (p9003 : x4.toInt ≤ 20) (p9004 : 2 ≤ x6.toInt) (p9005 : x6.toInt ≤ 66) (p9006 : 0 ≤ x7.toInt) (p9007 : x7.toInt ≤ 19) (p9008 : x2.toInt ≤ (n1 : Int)) (hk9 : ∀ (y0 : S2) (y1 : Int32) (y2 : Int32) (y3 : Int32) (y4 : Int32) (y5 : Int32), IvC 0 τ y0 → 0 ≤ y1.toInt → y1.toInt ≤ 60 → 1 ≤ y2.toInt → y2.toInt ≤ 20 → 0 ≤ y5.toInt → y5.toInt ≤ 20 → y1.toInt ≤ (n1 : Int) → x7.toInt + 1 ≤ y5.toInt → Ok (fun z => IvC 0 τ z.2) (k9 y0 y1 y2 y3 y4 y5)) : Ok (fun z => IvC 0 τ z.2) (fX4_addFrom_153 τ c1 n1 k9 σ x2 x4 x5 x6 x7) := by
  have hFU : ((FU : Nat) : Int) = 100000 := rfl
  unfold fX4_addFrom_153
  have : (1 : Int32).toInt = 1 := by decide
  have : ((x7 + 1) : Int32).toInt = (x7 : Int32).toInt + (1 : Int32).toInt := i32_add (by omega) (by omega)
  refine ok_nmI (fun v1 hv1 he1 => ?_)
  have := i32_rng x5
  exact hk9 σ x2 x4 x5 x6 v1 hI (by omega) (by omega) (by omega) (by omega) (by omega) (by omega) (by omega) (by omega)

theorem sX4_addFrom_74 (τ : Nat) (c1 : Nat) (n1 : Nat) (k9 : S2 → Int32 → Int32 → Int32 → Int32 → Int32 → Option (Int32 × S2)) : ∀ (n : Nat) (σ : S2) (x2 : Int32) (x4 : Int32) (x5 : Int32) (x6 : Int32) (x7 : Int32) (x10 : Int32) (x11 : Int32), IvC 0 τ σ → 1 ≤ x2.toInt → x2.toInt ≤ 60 → 1 ≤ x4.toInt → x4.toInt ≤ 20 → 0 ≤ x6.toInt → x6.toInt ≤ 59 → 0 ≤ x7.toInt → x7.toInt ≤ 19 → 1 ≤ x10.toInt → x10.toInt ≤ 6 → 0 ≤ x11.toInt → x11.toInt ≤ 6 → x2.toInt ≤ (n1 : Int) → x6.toInt + x10.toInt < x2.toInt → x11.toInt ≤ x10.toInt → 6 - x11.toInt < (n : Int) → (∀ (y0 : S2) (y1 : Int32) (y2 : Int32) (y3 : Int32) (y4 : Int32) (y5 : Int32), IvC 0 τ y0 → 0 ≤ y1.toInt → y1.toInt ≤ 60 → 1 ≤ y2.toInt → y2.toInt ≤ 20 → 0 ≤ y5.toInt → y5.toInt ≤ 20 → y1.toInt ≤ (n1 : Int) → x7.toInt + 1 ≤ y5.toInt → Ok (fun z => IvC 0 τ z.2) (k9 y0 y1 y2 y3 y4 y5)) → Ok (fun z => IvC 0 τ z.2) (fX4_addFrom_74 τ c1 n1 k9 n σ x2 x4 x5 x6 x7 x10 x11) := by
  have hFU : ((FU : Nat) : Int) = 100000 := rfl
  intro n
  induction n with
  | zero => intro σ x2 x4 x5 x6 x7 x10 x11 hI p9000 p9001 p9002 p9003 p9004 p9005 p9006 p9007 p9008 p9009 p9010 p9011 p9012 p9013 p9014 hm hk9; exfalso; omega
  | succ n ih =>
    intro σ x2 x4 x5 x6 x7 x10 x11 hI p9000 p9001 p9002 p9003 p9004 p9005 p9006 p9007 p9008 p9009 p9010 p9011 p9012 p9013 p9014 hm hk9
    unfold fX4_addFrom_74
    refine ok_le (fun h1 => ?_) (fun h1 => ?_)
    · have : (1 : Int32).toInt = 1 := by decide
      have : ((1 + x10) : Int32).toInt = (1 : Int32).toInt + (x10 : Int32).toInt := i32_add (by omega) (by omega)
      have : ((x6 + (1 + x10)) : Int32).toInt = (x6 : Int32).toInt + ((1 + x10) : Int32).toInt := i32_add (by omega) (by omega)
      refine ok_nmI (fun v2 hv2 he2 => ?_)
      have : (0 : Int32).toInt = 0 := by decide
      refine ok_bi (sX4_find τ 6 6 σ 0 x10 hI (by omega) (by omega) (by omega) (by omega) (by omega)) (fun r3 hr3 => ?_)
      obtain ⟨p4, p5⟩ := hr3
      have p4 : (-1) ≤ r3.toInt := p4
      have p5 : r3.toInt ≤ 39 := p5
      have : ((-1) : Int32).toInt = (-1) := by decide
      refine ok_eq (fun h6 => ?_) (fun h6 => ?_)
      · refine ok_bs (sX4_add τ 6 6 σ 0 x10 hI (by omega) (by omega) (by omega) (by omega) (by omega) (by first | assumption | exact KeM.rf _ | exact ByC.a6)) (fun r5 σ6 hr7 => ?_)
        obtain ⟨p8, p9, p10⟩ := hr7
        have p8 : IvC 0 τ σ6 := p8
        have p9 : (-1) ≤ r5.toInt := p9
        have p10 : r5.toInt ≤ 39 := p10
        refine ok_eq (fun h11 => ?_) (fun h11 => ?_)
        · have := i32_rng x5
          exact ok_some p8
        · have := i32_rng x5
          have := i32_rng (x5 + 1)
          refine ok_nmI (fun v8 hv8 he12 => ?_)
          have := i32_rng v8
          exact sX4_addFrom_153 τ c1 n1 k9 σ6 x2 x4 v8 v2 x7 p8 (by omega) (by omega) (by omega) (by omega) (by omega) (by omega) (by omega) (by omega) (by omega) (fun y0 y1 y2 y3 y4 y5 q0 q1 q2 q3 q4 q5 q6 q7 q8 => hk9 y0 y1 y2 y3 y4 y5 q0 q1 q2 q3 q4 q5 q6 q7 (by omega))
      · have := i32_rng x5
        exact sX4_addFrom_153 τ c1 n1 k9 σ x2 x4 x5 v2 x7 hI (by omega) (by omega) (by omega) (by omega) (by omega) (by omega) (by omega) (by omega) (by omega) (fun y0 y1 y2 y3 y4 y5 q0 q1 q2 q3 q4 q5 q6 q7 q8 => hk9 y0 y1 y2 y3 y4 y5 q0 q1 q2 q3 q4 q5 q6 q7 (by omega))
    · have : (1 : Int32).toInt = 1 := by decide
      have : ((x6 + 1) : Int32).toInt = (x6 : Int32).toInt + (1 : Int32).toInt := i32_add (by omega) (by omega)
      have : (((x6 + 1) + x11) : Int32).toInt = ((x6 + 1) : Int32).toInt + (x11 : Int32).toInt := i32_add (by omega) (by omega)
      refine ok_ck (by omega) (by omega) ?_
      refine ok_nm (fun v9 _ => ?_)
      refine ok_ck (by omega) (by omega) ?_
      have := i32_narB (Int8.toInt32 (Int32.toInt8 (Int64.toInt32 v9)))
      refine ok_nm (fun σ10 hs13 => ?_)
      have hI14 : IvC 0 τ σ10 := by rw [hs13]; exact IvC.wF hI (by decide) (by omega) (show (-128) ≤ ((vp_nar .byte (Int8.toInt32 (Int32.toInt8 (Int64.toInt32 v9)))) : Int32).toInt by omega) (show ((vp_nar .byte (Int8.toInt32 (Int32.toInt8 (Int64.toInt32 v9)))) : Int32).toInt ≤ 127 by omega)
      have : ((x11 + 1) : Int32).toInt = (x11 : Int32).toInt + (1 : Int32).toInt := i32_add (by omega) (by omega)
      refine ok_nmI (fun v11 hv11 he15 => ?_)
      have := i32_rng x5
      exact ih σ10 x2 x4 x5 x6 x7 x10 v11 hI14 (by omega) (by omega) (by omega) (by omega) (by omega) (by omega) (by omega) (by omega) (by omega) (by omega) (by omega) (by omega) (by omega) (by omega) (by omega) (by omega) (fun y0 y1 y2 y3 y4 y5 q0 q1 q2 q3 q4 q5 q6 q7 q8 => hk9 y0 y1 y2 y3 y4 y5 q0 q1 q2 q3 q4 q5 q6 q7 (by omega))

theorem sX4_addFrom_9 (τ : Nat) (c1 : Nat) (n1 : Nat) : ∀ (n : Nat) (σ : S2) (x2 : Int32) (x4 : Int32) (x5 : Int32) (x6 : Int32) (x7 : Int32), IvC 0 τ σ → 0 ≤ x2.toInt → x2.toInt ≤ 60 → 1 ≤ x4.toInt → x4.toInt ≤ 20 → 0 ≤ x7.toInt → x7.toInt ≤ 20 → x2.toInt ≤ (n1 : Int) → 20 - x7.toInt < (n : Int) → Ok (fun z => IvC 0 τ z.2) (fX4_addFrom_9 τ c1 n1 n σ x2 x4 x5 x6 x7) := by
  have hFU : ((FU : Nat) : Int) = 100000 := rfl
  intro n
  induction n with
  | zero => intro σ x2 x4 x5 x6 x7 hI p9000 p9001 p9002 p9003 p9004 p9005 p9006 hm; exfalso; omega
  | succ n ih =>
    intro σ x2 x4 x5 x6 x7 hI p9000 p9001 p9002 p9003 p9004 p9005 p9006 hm
    unfold fX4_addFrom_9
    refine ok_le (fun h1 => ?_) (fun h1 => ?_)
    · have := i32_rng x5
      exact ok_some hI
    · have := i32_rng x6
      have : (0 : Int32).toInt = 0 := by decide
      refine ok_lt (fun h2 => ?_) (fun h2 => ?_)
      · have := i32_rng x5
        exact ok_some hI
      · refine ok_lt (fun h3 => ?_) (fun h3 => ?_)
        · refine ok_ck (by omega) (by omega) ?_
          refine ok_nm (fun v12 _ => ?_)
          have := i32_rng (lg_cmp v12 1)
          refine ok_lt (fun h4 => ?_) (fun h4 => ?_)
          · have := i32_rng x5
            exact ok_some hI
          · have := i32_rng (lg_cmp v12 6)
            refine ok_lt (fun h5 => ?_) (fun h5 => ?_)
            · have := i32_rng x5
              exact ok_some hI
            · have := i32_rng (lg_cmp v12 (Int32.toInt64 (x2 - x6)))
              refine ok_lt (fun h6 => ?_) (fun h6 => ?_)
              · have := i32_rng (Int64.toInt32 v12)
                refine ok_nmI (fun v13 hv13 he7 => ?_)
                have : (x2 - x6).toInt = x2.toInt - x6.toInt := i32_sub (by omega) (by omega)
                have := lg3 (v := v12) (d := x2 - x6) (by omega) (by omega) (by omega)
                rw [← hv13] at this
                have := i32_rng x5
                have := i32_rng v13
                exact sX4_addFrom_74 τ c1 n1 (fX4_addFrom_9 τ c1 n1 n) FU σ x2 x4 x5 x6 x7 v13 0 hI (by omega) (by omega) (by omega) (by omega) (by omega) (by omega) (by omega) (by omega) (by omega) (by omega) (by omega) (by omega) (by omega) (by omega) (by omega) (by omega) (fun y0 y1 y2 y3 y4 y5 q0 q1 q2 q3 q4 q5 q6 q7 q8 => ih y0 y1 y2 y3 y4 y5 q0 q1 q2 q3 q4 q5 q6 q7 (by omega))
              · have := i32_rng x5
                exact ok_some hI
        · have := i32_rng x5
          exact ok_some hI

theorem sX4_addFrom_0 (τ : Nat) (c1 : Nat) (n1 : Nat) (σ : S2) (x2 : Int32) (x3 : Int32) (x4 : Int32) (hI : IvC 0 τ σ) (p9000 : 0 ≤ x2.toInt) (p9001 : x2.toInt ≤ 60) (p9002 : 1 ≤ x4.toInt) (p9003 : x4.toInt ≤ 20) (p9004 : x2.toInt ≤ (n1 : Int))  : Ok (fun z => IvC 0 τ z.2) (fX4_addFrom_0 τ c1 n1 σ x2 x3 x4) := by
  have hFU : ((FU : Nat) : Int) = 100000 := rfl
  unfold fX4_addFrom_0
  have : (0 : Int32).toInt = 0 := by decide
  have := i32_rng x3
  exact sX4_addFrom_9 τ c1 n1 FU σ x2 x4 0 x3 0 hI (by omega) (by omega) (by omega) (by omega) (by omega) (by omega) (by omega) (by omega)

theorem sX4_addFrom (τ : Nat) (c1 : Nat) (n1 : Nat) (σ : S2) (a2 : Int32) (a3 : Int32) (a4 : Int32) (hI : IvC 0 τ σ) (p9000 : 0 ≤ a2.toInt) (p9001 : a2.toInt ≤ 60) (p9002 : 1 ≤ a4.toInt) (p9003 : a4.toInt ≤ 20) (p9004 : a2.toInt ≤ (n1 : Int))  : Ok (fun z => IvC 0 τ z.2) (fX4_addFrom τ c1 n1 σ a2 a3 a4) := by
  unfold fX4_addFrom
  exact sX4_addFrom_0 τ c1 n1 σ a2 a3 a4 hI (by assumption) (by assumption) (by assumption) (by assumption) (by assumption)

theorem sX5_isTold_2 (τ : Nat) : ∀ (n : Nat) (σ : S2) (x1 : Int32) (x2 : Int32), IvC 0 τ σ → 0 ≤ x1.toInt → x1.toInt ≤ 11 → 0 ≤ x2.toInt → x2.toInt ≤ 5 → 5 - x2.toInt < (n : Int) → Ok (fun z => 0 ≤ z.toInt ∧ z.toInt ≤ 1) (fX5_isTold_2 τ n σ x1 x2) := by
  have hFU : ((FU : Nat) : Int) = 100000 := rfl
  intro n
  induction n with
  | zero => intro σ x1 x2 hI p9000 p9001 p9002 p9003 hm; exfalso; omega
  | succ n ih =>
    intro σ x1 x2 hI p9000 p9001 p9002 p9003 hm
    unfold fX5_isTold_2
    have : 0 ≤ (σ.1 27 1).toInt ∧ (σ.1 27 1).toInt ≤ 5 := hI.1 27 1
    refine ok_le (fun h1 => ?_) (fun h1 => ?_)
    · have : (0 : Int32).toInt = 0 := by decide
      exact ok_some ⟨by show 0 ≤ (0 : Int32).toInt; omega, by show (0 : Int32).toInt ≤ 1; omega⟩
    · refine ok_ck (by omega) (by omega) ?_
      have : 0 ≤ (σ.1 28 (Int32.toNatClampNeg x2)).toInt ∧ (σ.1 28 (Int32.toNatClampNeg x2)).toInt ≤ 11 := hI.1 28 (Int32.toNatClampNeg x2)
      refine ok_nmI (fun v1 hv1 he2 => ?_)
      refine ok_eq (fun h3 => ?_) (fun h3 => ?_)
      · have : (1 : Int32).toInt = 1 := by decide
        exact ok_some ⟨by show 0 ≤ (1 : Int32).toInt; omega, by show (1 : Int32).toInt ≤ 1; omega⟩
      · have : (1 : Int32).toInt = 1 := by decide
        have : ((x2 + 1) : Int32).toInt = (x2 : Int32).toInt + (1 : Int32).toInt := i32_add (by omega) (by omega)
        refine ok_nmI (fun v2 hv2 he4 => ?_)
        exact ih σ x1 v2 hI (by omega) (by omega) (by omega) (by omega) (by omega)

theorem sX5_isTold_0 (τ : Nat) (σ : S2) (x1 : Int32) (hI : IvC 0 τ σ) (p9000 : 0 ≤ x1.toInt) (p9001 : x1.toInt ≤ 11)  : Ok (fun z => 0 ≤ z.toInt ∧ z.toInt ≤ 1) (fX5_isTold_0 τ σ x1) := by
  have hFU : ((FU : Nat) : Int) = 100000 := rfl
  unfold fX5_isTold_0
  have : (0 : Int32).toInt = 0 := by decide
  exact sX5_isTold_2 τ FU σ x1 0 hI (by omega) (by omega) (by omega) (by omega) (by omega)

theorem sX5_isTold (τ : Nat) (σ : S2) (a1 : Int32) (hI : IvC 0 τ σ) (p9000 : 0 ≤ a1.toInt) (p9001 : a1.toInt ≤ 11)  : Ok (fun z => 0 ≤ z.toInt ∧ z.toInt ≤ 1) (fX5_isTold τ σ a1) := by
  unfold fX5_isTold
  exact sX5_isTold_0 τ σ a1 hI (by assumption) (by assumption)

theorem takeLaw_ok {τ b0 c1 n1 : Nat} {σ : S2} {a2 : Int32} (hI : IvC 0 τ σ) (hn : (n1 : Int) ≤ 1000) (hc : ByC c1) : Ok (fun z => IvC 0 τ z.2) (fX8_takeLaw τ b0 c1 n1 σ a2) := by
  have z0 : (0 : Int32).toInt = 0 := rfl
  have e80 : (80 : Int32).toInt = 80 := rfl
  have eN := i32_ofNat (n := n1) (by omega)
  unfold fX8_takeLaw fX8_takeLaw_0
  have f1 := i32_iflt (Int32.ofNat n1) a2 (Int32.ofNat n1) a2
  generalize (if Int32.ofNat n1 < a2 then Int32.ofNat n1 else a2) = p at f1 ⊢
  have f2 := i32_iflt 80 p 80 p
  generalize (if (80 : Int32) < p then 80 else p) = q at f2 ⊢
  have f3 := i32_iflt 0 q q 0
  generalize (if (0 : Int32) < q then q else 0) = r at f3 ⊢
  have hr : 0 ≤ r.toInt ∧ r.toInt ≤ 80 ∧ r.toInt ≤ (n1 : Int) := by omega
  refine ok_nm (fun σ1 h1 => ?_)
  have hI1 : IvC 0 τ σ1 := by rw [h1]; exact hI.wT0 (by decide) (show (0 : Int) ≤ r.toInt by omega) (show r.toInt ≤ 80 by omega)
  have e6 : σ1.1 (182 + 6 * b0) 6 = r := by rw [h1, ux_wI_eq]
  rw [e6]
  have hb : ∀ i, -128 ≤ (σ1.1 c1 i).toInt ∧ (σ1.1 c1 i).toInt ≤ 127 := fun i => by
    have := hI1.1 c1 i; have := hc i; omega
  refine ok_cp (by omega) (by omega) (by omega) (by omega) (by omega) (fun i => fit_byte (hb i).1 (hb i).2) (ok_nm (fun σ2 h2 => ok_some ?_))
  show IvC 0 τ σ2
  rw [h2]
  refine hI1.wB (by omega) (fun b => ⟨by omega, by omega, by omega⟩) (fun i => ?_)
  rw [loC_t b0 3 i (by decide), hiC_t b0 3 i (by decide)]
  exact cpy_in hb (fun i => hI1.1.t b0 3 i (by decide)) i
theorem sX8_takeLaw (τ : Nat) (b0 : Nat) (c1 : Nat) (n1 : Nat) (σ : S2) (a2 : Int32) (hI : IvC 0 τ σ) (p9000 : ByC c1) (p9001 : (n1 : Int) ≤ 1000)  : Ok (fun z => IvC 0 τ z.2) (fX8_takeLaw τ b0 c1 n1 σ a2) := by
  exact takeLaw_ok hI (by omega) (by assumption)

theorem takeAll_ok {τ b0 b1 : Nat} {σ : S2} (hI : IvC 0 τ σ) : Ok (fun z => IvC 0 τ z.2) (fX8_takeAll τ b0 b1 σ) := by
  have z0 : (0 : Int32).toInt = 0 := rfl
  have e12 : (12 : Int32).toInt = 12 := rfl
  unfold fX8_takeAll fX8_takeAll_0
  refine ok_nm (fun σ1 h1 => ?_)
  have hI1 : IvC 0 τ σ1 := by rw [h1]; exact hI.wT0 (by decide) (i32_rng _).1 (i32_rng _).2
  refine ok_cp (by omega) (by omega) (by omega) (by omega) (by omega) (fun i => rfl) (ok_nm (fun σ2 h2 => ?_))
  have hI2 : IvC 0 τ σ2 := by
    rw [h2]
    refine hI1.wB (by omega) (fun b => ⟨by omega, by omega, by omega⟩) (fun i => ?_)
    rw [loC_t b0 1 i (by decide), hiC_t b0 1 i (by decide)]
    exact cpy_in (fun i => hI1.1.t b1 1 i (by decide)) (fun i => hI1.1.t b0 1 i (by decide)) i
  refine ok_bs (takeLaw_ok (b0 := b0) (n1 := 80) (a2 := σ2.1 (182 + 6 * b1) 6) hI2 (by decide) (ByC.t3 b1)) (fun r3 σ4 h4 => ?_)
  refine ok_nm (fun σ6 h6 => ok_nm (fun σ7 h7 => ok_nm (fun σ8 h8 => ok_some ?_)))
  have hI4 : IvC 0 τ σ4 := h4
  have q2 : (1 : Int) ≤ (σ4.1 (182 + 6 * b1) 2).toInt ∧ (σ4.1 (182 + 6 * b1) 2).toInt ≤ 4 := hI4.1.t0 b1 2
  have hI6 : IvC 0 τ σ6 := by rw [h6]; exact hI4.wT0 (by decide) q2.1 q2.2
  have q3 : (1 : Int) ≤ (σ6.1 (182 + 6 * b1) 3).toInt ∧ (σ6.1 (182 + 6 * b1) 3).toInt ≤ 4 := hI6.1.t0 b1 3
  have hI7 : IvC 0 τ σ7 := by rw [h7]; exact hI6.wT0 (by decide) q3.1 q3.2
  have q4 : (0 : Int) ≤ (σ7.1 (182 + 6 * b1) 4).toInt ∧ (σ7.1 (182 + 6 * b1) 4).toInt ≤ 2 := hI7.1.t0 b1 4
  show IvC 0 τ σ8
  rw [h8]; exact hI7.wT0 (by decide) q4.1 q4.2
theorem sX8_takeAll (τ : Nat) (b0 : Nat) (b1 : Nat) (σ : S2) (hI : IvC 0 τ σ)   : Ok (fun z => IvC 0 τ z.2) (fX8_takeAll τ b0 b1 σ) := by
  exact takeAll_ok hI

theorem sX8_freeFrom_4 {g : Nat} (τ : Nat) (b0 : Nat) : ∀ (n : Nat) (σ : S2) (x2 : Int32) (x3 : Int32), IvC g τ σ → 0 ≤ x2.toInt → x2.toInt ≤ 999 → 0 ≤ x3.toInt → x3.toInt ≤ 1000 → 1000 - x3.toInt < (n : Int) → Ok (fun z => 0 ≤ z.toInt ∧ z.toInt ≤ 999) (fX8_freeFrom_4 τ b0 n σ x2 x3) := by
  have hFU : ((FU : Nat) : Int) = 100000 := rfl
  intro n
  induction n with
  | zero => intro σ x2 x3 hI p9000 p9001 p9002 p9003 hm; exfalso; omega
  | succ n ih =>
    intro σ x2 x3 hI p9000 p9001 p9002 p9003 hm
    unfold fX8_freeFrom_4
    have : (1000 : Int32).toInt = 1000 := by decide
    refine ok_le (fun h1 => ?_) (fun h1 => ?_)
    · exact ok_some ⟨by show 0 ≤ x2.toInt; omega, by show x2.toInt ≤ 999; omega⟩
    · refine ok_ck (by omega) (by omega) ?_
      have : (-1) ≤ (σ.1 ((182 + (6 * b0)) + 4) (Int32.toNatClampNeg x2)).toInt ∧ (σ.1 ((182 + (6 * b0)) + 4) (Int32.toNatClampNeg x2)).toInt ≤ 11 := hI.1.t b0 4 (Int32.toNatClampNeg x2) (by decide)
      refine ok_nmI (fun v1 hv1 he2 => ?_)
      have : ((-1) : Int32).toInt = (-1) := by decide
      refine ok_eq (fun h3 => ?_) (fun h3 => ?_)
      · exact ok_some ⟨by show 0 ≤ x2.toInt; omega, by show x2.toInt ≤ 999; omega⟩
      · refine ok_bi (sX11_placeBehind τ σ x2 hI (by omega) (by omega)) (fun r2 hr4 => ?_)
        obtain ⟨p5, p6⟩ := hr4
        have p5 : 0 ≤ r2.toInt := p5
        have p6 : r2.toInt ≤ 999 := p6
        have : (1 : Int32).toInt = 1 := by decide
        have : ((x3 + 1) : Int32).toInt = (x3 : Int32).toInt + (1 : Int32).toInt := i32_add (by omega) (by omega)
        refine ok_nmI (fun v4 hv4 he7 => ?_)
        exact ih σ r2 v4 hI (by omega) (by omega) (by omega) (by omega) (by omega)

theorem sX8_freeFrom_0 {g : Nat} (τ : Nat) (b0 : Nat) (σ : S2) (x1 : Int32) (hI : IvC g τ σ) (p9000 : 0 ≤ x1.toInt) (p9001 : x1.toInt ≤ 999)  : Ok (fun z => 0 ≤ z.toInt ∧ z.toInt ≤ 999) (fX8_freeFrom_0 τ b0 σ x1) := by
  have hFU : ((FU : Nat) : Int) = 100000 := rfl
  unfold fX8_freeFrom_0
  have : (0 : Int32).toInt = 0 := by decide
  exact sX8_freeFrom_4 τ b0 FU σ x1 0 hI (by omega) (by omega) (by omega) (by omega) (by omega)

theorem sX8_freeFrom {g : Nat} (τ : Nat) (b0 : Nat) (σ : S2) (a1 : Int32) (hI : IvC g τ σ) (p9000 : 0 ≤ a1.toInt) (p9001 : a1.toInt ≤ 999)  : Ok (fun z => 0 ≤ z.toInt ∧ z.toInt ≤ 999) (fX8_freeFrom τ b0 σ a1) := by
  unfold fX8_freeFrom
  exact sX8_freeFrom_0 τ b0 σ a1 hI (by assumption) (by assumption)

/-- the links, while they are laid from place x2 on backward, twice round -/
noncomputable def LiC (σ : S2) (b : Nat) (x1 : Int32) (x2 : Int) : Prop := (∀ q : Nat, q < 1000 → 0 ≤ (σ.1 (182 + 6 * b + 4) q).toInt → x2 < 1000 + q → 0 ≤ (σ.1 (182 + 6 * b + 4) (Int32.toNatClampNeg x1)).toInt) ∧ ∀ q p : Nat, q < 1000 → 0 ≤ (σ.1 (182 + 6 * b + 4) q).toInt → p < 1000 → x2 < p → 0 ≤ (σ.1 (182 + 6 * b + 4) (Int32.toNatClampNeg (σ.1 (182 + 6 * b + 5) p))).toInt
theorem lp_step {τ b : Nat} {Q : Unit × S2 → Prop} {k6 : S2 → Int32 → Int32 → Option (Unit × S2)} {σ : S2} {x1 x2 x3 : Int32} (hI : IvC (b + 1) τ σ) (h0 : 0 ≤ x1.toInt) (h1 : x1.toInt ≤ 999) (h20 : 0 ≤ x2.toInt) (h21 : x2.toInt ≤ 1999) (h3 : x3.toInt = x2.toInt % 1000) (hl1 : ∀ q : Nat, q < 1000 → 0 ≤ (σ.1 (182 + 6 * b + 4) q).toInt → x2.toInt - 1 < 1000 + q → 0 ≤ (σ.1 (182 + 6 * b + 4) (Int32.toNatClampNeg x1)).toInt) (hl2 : ∀ q p : Nat, q < 1000 → 0 ≤ (σ.1 (182 + 6 * b + 4) q).toInt → p < 1000 → x2.toInt < p → 0 ≤ (σ.1 (182 + 6 * b + 4) (Int32.toNatClampNeg (σ.1 (182 + 6 * b + 5) p))).toInt) (hk : ∀ (σ' : S2) (v : Int32), IvC (b + 1) τ σ' → σ'.1 (182 + 6 * b) = σ.1 (182 + 6 * b) → σ'.1 (182 + 6 * b + 4) = σ.1 (182 + 6 * b + 4) → v.toInt = x2.toInt - 1 → LiC σ' b x1 (x2.toInt - 1) → Ok Q (k6 σ' x1 v)) : Ok Q (fX8_linkPlaces_28 τ b k6 σ x1 x2 x3) := by
  have m1 : ((-1 : Int32)).toInt = -1 := by decide
  have e3 := i32_nat (i := x3) (by omega)
  have es := i32_i16 h0 h1
  unfold fX8_linkPlaces_28
  refine ok_ck (by omega) (by omega) (ok_nm (fun σ1 hs => ok_nmI (fun v2 _ f2 => ?_)))
  rw [i32_add (by omega) (by omega), m1] at f2
  have hI1 : IvC (b + 1) τ σ1 := by
    rw [hs]
    refine hI.wX (Or.inr (Or.inr rfl)) ?_ ?_
    · rw [loC_t b 5 _ (by decide)]; show (0 : Int) ≤ _; omega
    · rw [hiC_t b 5 _ (by decide)]; show _ ≤ (999 : Int); omega
  have eo : σ1.1 (182 + 6 * b + 4) = σ.1 (182 + 6 * b + 4) := by funext i; rw [hs, ux_wI_ne (by rintro ⟨q, _⟩; omega)]
  have ef : σ1.1 (182 + 6 * b) = σ.1 (182 + 6 * b) := by funext i; rw [hs, ux_wI_ne (by rintro ⟨q, _⟩; omega)]
  refine hk σ1 v2 hI1 ef eo (by omega) ⟨fun q hq ho hlt => ?_, fun q p hq ho hp hlt => ?_⟩
  · rw [eo] at ho ⊢; exact hl1 q hq ho hlt
  · rw [eo] at ho ⊢
    by_cases e : p = Int32.toNatClampNeg x3
    · subst e
      have ev : Int32.toNatClampNeg (σ1.1 (182 + 6 * b + 5) (Int32.toNatClampNeg x3)) = Int32.toNatClampNeg x1 := by
        rw [hs, ux_wI_eq]
        have a1 := i32_nat (i := vp_nar .short (Int16.toInt32 (Int32.toInt16 x1))) (by omega)
        have a2 := i32_nat h0
        omega
      rw [ev]
      exact hl1 q hq ho (by omega)
    · rw [hs, ux_wI_ne (fun r => e r.2)]
      exact hl2 q p hq ho hp (by omega)
theorem lp_walk {τ b : Nat} : ∀ (n : Nat) (σ : S2) (x1 x2 : Int32), IvC (b + 1) τ σ → 0 ≤ x1.toInt → x1.toInt ≤ 999 → -1 ≤ x2.toInt → x2.toInt ≤ 1999 → LiC σ b x1 x2.toInt → x2.toInt + 2 ≤ (n : Int) → Ok (fun z => IvC (b + 1) τ z.2 ∧ z.2.1 (182 + 6 * b) = σ.1 (182 + 6 * b) ∧ z.2.1 (182 + 6 * b + 4) = σ.1 (182 + 6 * b + 4) ∧ ∀ q p : Nat, q < 1000 → 0 ≤ (z.2.1 (182 + 6 * b + 4) q).toInt → p < 1000 → 0 ≤ (z.2.1 (182 + 6 * b + 4) (Int32.toNatClampNeg (z.2.1 (182 + 6 * b + 5) p))).toInt) (fX8_linkPlaces_6 τ b n σ x1 x2) := by
  intro n
  induction n with
  | zero => intro σ x1 x2 hI h0 h1 h20 h21 hl hm; exfalso; omega
  | succ n ih =>
    intro σ x1 x2 hI h0 h1 h20 h21 hl hm
    have z0 : (0 : Int32).toInt = 0 := rfl
    have m1 : ((-1 : Int32)).toInt = -1 := by decide
    have e1000 : (1000 : Int32).toInt = 1000 := rfl
    unfold fX8_linkPlaces_6
    refine ok_lt (fun hlt => ok_some ⟨hI, rfl, rfl, fun q p hq ho hp => hl.2 q p hq ho hp (by omega)⟩) (fun hge => ?_)
    refine ok_dz (by omega) (ok_nmI (fun v4 _ f4 => ?_))
    rw [i32_rem e1000 (by omega) (by omega)] at f4
    have e4 := i32_nat (i := v4) (by omega)
    refine ok_ck (by omega) (by omega) (ok_nmI (fun v5 _ f5 => ?_))
    have ho : (-1 : Int) ≤ (σ.1 (182 + 6 * b + 4) (Int32.toNatClampNeg v4)).toInt ∧ (σ.1 (182 + 6 * b + 4) (Int32.toNatClampNeg v4)).toInt ≤ 11 := hI.1.t b 4 _ (by decide)
    have back : ∀ (y1 : Int32), 0 ≤ y1.toInt → y1.toInt ≤ 999 → ∀ (σ' : S2) (v : Int32), IvC (b + 1) τ σ' → σ'.1 (182 + 6 * b) = σ.1 (182 + 6 * b) → σ'.1 (182 + 6 * b + 4) = σ.1 (182 + 6 * b + 4) → v.toInt = x2.toInt - 1 → LiC σ' b y1 (x2.toInt - 1) → Ok (fun z => IvC (b + 1) τ z.2 ∧ z.2.1 (182 + 6 * b) = σ.1 (182 + 6 * b) ∧ z.2.1 (182 + 6 * b + 4) = σ.1 (182 + 6 * b + 4) ∧ ∀ q p : Nat, q < 1000 → 0 ≤ (z.2.1 (182 + 6 * b + 4) q).toInt → p < 1000 → 0 ≤ (z.2.1 (182 + 6 * b + 4) (Int32.toNatClampNeg (z.2.1 (182 + 6 * b + 5) p))).toInt) (fX8_linkPlaces_6 τ b n σ' y1 v) := by
      intro y1 g0 g1 σ' v q1 q2 q3 q4 q5
      refine ok_mono (ih σ' y1 v q1 g0 g1 (by omega) (by omega) (by rw [q4]; exact q5) (by omega)) (fun z hz => ?_)
      exact ⟨hz.1, hz.2.1.trans q2, hz.2.2.1.trans q3, hz.2.2.2⟩
    refine ok_eq (fun he => ?_) (fun he => ?_)
    · refine lp_step hI h0 h1 (by omega) h21 f4 (fun q hq hoq hlt => ?_) hl.2 (back x1 h0 h1)
      by_cases e : x2.toInt < 1000 + q
      · exact hl.1 q hq hoq e
      · have : q = Int32.toNatClampNeg v4 := by omega
        subst this; exfalso; omega
    · refine lp_step hI (by omega) (by omega) (by omega) h21 f4 (fun q hq hoq hlt => by omega) hl.2 (back v4 (by omega) (by omega))
noncomputable def HsC (σ : S2) (b : Nat) : Prop := (σ.1 (182 + 6 * b) 5).toInt = 0 ∨ ∃ q : Nat, q < 1000 ∧ 0 ≤ (σ.1 (182 + 6 * b + 4) q).toInt
theorem link_ok {τ b : Nat} {σ : S2} (hI : IvC (b + 1) τ σ) (hs : HsC σ b) : Ok (fun z => IvC 0 τ z.2) (fX8_linkPlaces τ b σ) := by
  have e1999 : (1999 : Int32).toInt = 1999 := rfl
  have z0 : (0 : Int32).toInt = 0 := rfl
  have hFU : FU = 100000 := rfl
  unfold fX8_linkPlaces fX8_linkPlaces_0
  refine ok_mono (lp_walk (b := b) FU σ 0 1999 hI (by omega) (by omega) (by omega) (by omega) ⟨fun q hq _ hlt => by exfalso; omega, fun q p _ _ hp hlt => by exfalso; omega⟩ (by omega)) (fun z hz => ?_)
  obtain ⟨z1, z2, z3, z4⟩ := hz
  refine z1.full ?_
  rcases hs with e | ⟨q, hq, ho⟩
  · left; rw [z2]; exact e
  · right; intro p hp; exact z4 q p hq (by rw [z3]; exact ho) hp
theorem fillb_5 {τ c0 n0 : Nat} {x1 : Int32} {P : S2 → Prop} (hn : (n0 : Int) ≤ 1000) (hP : ∀ (σ : S2) (i : Nat), P σ → P (ux_wI σ c0 i (vp_nar .byte x1))) : ∀ (n : Nat) (σ : S2) (x2 x3 : Int32), P σ → 0 ≤ x2.toInt → x2.toInt ≤ 1000 → x3.toInt ≤ (n0 : Int) → 1001 - x2.toInt ≤ (n : Int) → Ok (fun z => P z.2) (fJ7_fill_031fb_5 τ c0 n0 n σ x1 x2 x3) := by
  intro n
  induction n with
  | zero => intro σ x2 x3 h a0 a1 b1 hm; exfalso; omega
  | succ n ih =>
    intro σ x2 x3 h a0 a1 b1 hm
    have one : (1 : Int32).toInt = 1 := rfl
    unfold fJ7_fill_031fb_5
    refine ok_le (fun _ => ok_some h) (fun hlt => ?_)
    refine ok_ck (by omega) (by omega) (ok_nm (fun σ1 h1 => ok_nmI (fun v2 _ f2 => ?_)))
    rw [i32_add (by omega) (by omega), one] at f2
    exact ih σ1 v2 x3 (by rw [h1]; exact hP _ _ h) (by omega) (by omega) b1 (by omega)
theorem fillb_P {τ c0 n0 : Nat} {x1 : Int32} {P : S2 → Prop} (hn : (n0 : Int) ≤ 1000) (hP : ∀ (σ : S2) (i : Nat), P σ → P (ux_wI σ c0 i (vp_nar .byte x1))) (σ : S2) (h : P σ) : Ok (fun z => P z.2) (fJ7_fill_031fb τ c0 n0 σ x1) := by
  have eN := i32_ofNat (n := n0) (by omega)
  have z0 : (0 : Int32).toInt = 0 := rfl
  have hFU : FU = 100000 := rfl
  unfold fJ7_fill_031fb fJ7_fill_031fb_0
  exact ok_nmI (fun v3 _ f3 => fillb_5 hn hP FU σ 0 v3 h (by omega) (by omega) (by omega) (by omega))
section SA
variable {τ b : Nat} {Q : Unit × S2 → Prop}
theorem sa_33 (k25 : S2 → Int32 → Int32 → Option (Unit × S2)) (x1 x2 : Int32) (a0 : 0 ≤ x2.toInt) (a1 : x2.toInt ≤ 11) (hk : ∀ (σ' : S2) (v : Int32), IvC (b + 1) τ σ' → HsC σ' b → (σ'.1 (182 + 6 * b) 5).toInt ≤ 64 * (x2.toInt + 1) → v.toInt = x2.toInt + 1 → Ok Q (k25 σ' x1 v)) : ∀ (n : Nat) (σ : S2) (x3 : Int32), IvC (b + 1) τ σ → HsC σ b → 0 ≤ x3.toInt → x3.toInt ≤ 64 → (σ.1 (182 + 6 * b) 5).toInt ≤ 64 * x2.toInt + x3.toInt → 65 - x3.toInt ≤ (n : Int) → Ok Q (fX8_seatAll_33 τ b k25 n σ x1 x2 x3) := by
  intro n
  induction n with
  | zero => intro σ x3 hI hs b0 b1 hc hm; exfalso; omega
  | succ n ih =>
    intro σ x3 hI hs b0 b1 hc hm
    have one : (1 : Int32).toInt = 1 := rfl
    have e4 : (4 : Int32).toInt = 4 := rfl
    unfold fX8_seatAll_33
    refine ok_ck (by omega) (by omega) (ok_nmI (fun v1 _ f1 => ?_))
    have hw : (0 : Int) ≤ (σ.1 (182 + 6 * b + 1) (Int32.toNatClampNeg x2)).toInt ∧ (σ.1 (182 + 6 * b + 1) (Int32.toNatClampNeg x2)).toInt ≤ 16 := hI.1.t b 1 _ (by decide)
    have em : (4 * v1).toInt = 4 * v1.toInt := i32_mulL e4 (by omega) (by omega)
    refine ok_le (fun hle => ok_nmI (fun v2 _ f2 => ?_)) (fun hlt => ?_)
    · rw [i32_add (by omega) (by omega), one] at f2
      exact hk σ v2 hI hs (by omega) f2
    · refine ok_bi (sX11_strewn τ σ _ hI) (fun r3 hr3 => ?_)
      refine ok_bi (sX8_freeFrom τ b σ r3 hI (by omega) (by omega)) (fun r5 hr5 => ?_)
      have e5 := i32_nat (i := r5) (by omega)
      refine ok_ck (by omega) (by omega) (ok_nm (fun σ7 h7 => ok_nm (fun σ8 h8 => ok_nmI (fun v9 _ f9 => ?_))))
      rw [i32_add (by omega) (by omega), one] at f9
      have ev : (vp_nar .byte (Int8.toInt32 (Int32.toInt8 x2))).toInt = x2.toInt := by
        have := i32_i8 (v := x2) (by omega) (by omega)
        rw [i32_narb8 (by omega) (by omega)]; exact this
      have hI7 : IvC (b + 1) τ σ7 := by
        rw [h7]
        refine hI.wX (Or.inr (Or.inl rfl)) ?_ ?_
        · rw [loC_t b 4 _ (by decide)]; show (-1 : Int) ≤ _; omega
        · rw [hiC_t b 4 _ (by decide)]; show _ ≤ (11 : Int); omega
      have es : (σ7.1 (182 + 6 * b) 5).toInt = (σ.1 (182 + 6 * b) 5).toInt := by rw [h7, ux_wI_ne (by rintro ⟨q, _⟩; omega)]
      have hsb : (0 : Int) ≤ (σ.1 (182 + 6 * b) 5).toInt ∧ (σ.1 (182 + 6 * b) 5).toInt ≤ 768 := hI.1.t0 b 5
      have ea : ((σ7.1 (182 + 6 * b) 5) + 1).toInt = (σ.1 (182 + 6 * b) 5).toInt + 1 := by rw [i32_add (by omega) (by omega), one]; omega
      have hI8 : IvC (b + 1) τ σ8 := by
        rw [h8]
        refine hI7.wX (Or.inl rfl) ?_ ?_
        · have := loC_t b 0 5 (by decide); rw [show 182 + 6 * b = 182 + 6 * b + 0 from rfl, this]; show (0 : Int) ≤ ((σ7.1 (182 + 6 * b) 5) + 1).toInt; omega
        · have := hiC_t b 0 5 (by decide); rw [show 182 + 6 * b = 182 + 6 * b + 0 from rfl, this]; show _ ≤ (768 : Int); show ((σ7.1 (182 + 6 * b) 5) + 1).toInt ≤ 768; omega
      have e8 : (σ8.1 (182 + 6 * b) 5).toInt = (σ.1 (182 + 6 * b) 5).toInt + 1 := by rw [h8, ux_wI_eq]; exact ea
      have hs8 : HsC σ8 b := by
        refine Or.inr ⟨Int32.toNatClampNeg r5, by omega, ?_⟩
        rw [h8, ux_wI_ne (by rintro ⟨q, _⟩; omega), h7, ux_wI_eq, ev]; exact a0
      exact ih σ8 v9 hI8 hs8 (by omega) (by omega) (by omega) (by omega)
theorem sa_25 (x1 : Int32) : ∀ (n : Nat) (σ : S2) (x2 : Int32), IvC (b + 1) τ σ → HsC σ b → 0 ≤ x2.toInt → x2.toInt ≤ 12 → (σ.1 (182 + 6 * b) 5).toInt ≤ 64 * x2.toInt → 13 - x2.toInt ≤ (n : Int) → Ok (fun z => IvC 0 τ z.2) (fX8_seatAll_25 τ b n σ x1 x2) := by
  intro n
  induction n with
  | zero => intro σ x2 hI hs b0 b1 hc hm; exfalso; omega
  | succ n ih =>
    intro σ x2 hI hs b0 b1 hc hm
    have e12 : (12 : Int32).toInt = 12 := rfl
    have z0 : (0 : Int32).toInt = 0 := rfl
    have hFU : FU = 100000 := rfl
    unfold fX8_seatAll_25
    refine ok_le (fun _ => ok_bs (link_ok hI hs) (fun r10 σ11 h => ok_some h)) (fun hlt => ?_)
    exact sa_33 (fX8_seatAll_25 τ b n) x1 x2 b0 (by omega) (fun σ' v q1 q2 q3 q4 => ih σ' v q1 q2 (by omega) (by omega) (by omega) (by omega)) FU σ 0 hI hs (by omega) (by omega) (by omega) (by omega)
theorem seatAll_ok {σ : S2} {a1 : Int32} (hI : IvC 0 τ σ) : Ok (fun z => IvC 0 τ z.2) (fX8_seatAll τ b σ a1) := by
  have z0 : (0 : Int32).toInt = 0 := rfl
  have m1 : ((-1 : Int32)).toInt = -1 := by decide
  have hFU : FU = 100000 := rfl
  unfold fX8_seatAll fX8_seatAll_0
  refine ok_nm (fun σ13 h13 => ok_nm (fun σ14 h14 => ok_nm (fun σ15 h15 => ?_)))
  have hI13 : IvC (b + 1) τ σ13 := by rw [h13]; exact (IvC.weak hI).wT0 (by decide) (i32_rng _).1 (i32_rng _).2
  have hI14 : IvC (b + 1) τ σ14 := by
    rw [h14]
    refine hI13.wX (Or.inl rfl) ?_ ?_
    · have := loC_t b 0 5 (by decide); rw [show 182 + 6 * b = 182 + 6 * b + 0 from rfl, this]; show (0 : Int) ≤ (0 : Int32).toInt; omega
    · have := hiC_t b 0 5 (by decide); rw [show 182 + 6 * b = 182 + 6 * b + 0 from rfl, this]; show (0 : Int32).toInt ≤ (768 : Int); omega
  have hI15 : IvC (b + 1) τ σ15 := by rw [h15]; exact hI14.wT0 (by decide) (by show (0 : Int) ≤ (0 : Int32).toInt; omega) (by show (0 : Int32).toInt ≤ 1; omega)
  have e15 : (σ15.1 (182 + 6 * b) 5).toInt = 0 := by rw [h15, ux_wI_ne (by rintro ⟨_, q⟩; exact absurd q (by decide)), h14, ux_wI_eq]; rfl
  have hfl : FlC (b + 1) τ (182 + 6 * b + 4) (vp_nar .byte (-1)) := fun σ i h => by
    have ev : (vp_nar .byte (-1)).toInt = -1 := by rw [i32_narb8 (by omega) (by omega)]; exact m1
    refine h.wX (Or.inr (Or.inl rfl)) ?_ ?_
    · rw [loC_t b 4 _ (by decide)]; show (-1 : Int) ≤ _; omega
    · rw [hiC_t b 4 _ (by decide)]; show _ ≤ (11 : Int); omega
  refine ok_bs (fillb_P (τ := τ) (c0 := 182 + 6 * b + 4) (n0 := 1000) (x1 := -1) (P := fun σ => IvC (b + 1) τ σ ∧ (σ.1 (182 + 6 * b) 5).toInt = 0) (by decide) (fun σ i h => ⟨hfl σ i h.1, by rw [ux_wI_ne (by rintro ⟨q, _⟩; omega)]; exact h.2⟩) σ15 ⟨hI15, e15⟩) (fun r16 σ17 h17 => ?_)
  have h5 : (σ17.1 (182 + 6 * b) 5).toInt = 0 := h17.2
  exact sa_25 a1 FU σ17 0 h17.1 (Or.inl h5) (by omega) (by omega) (by omega) (by omega)
end SA
theorem sX8_seatAll (τ : Nat) (b0 : Nat) (σ : S2) (a1 : Int32) (hI : IvC 0 τ σ)   : Ok (fun z => IvC 0 τ z.2) (fX8_seatAll τ b0 σ a1) := by
  exact seatAll_ok hI

theorem sX5_seatSet_123 (τ : Nat) (b1 : Nat) : ∀ (n : Nat) (σ : S2) (x3 : Int32) (x4 : Int32), IvC 0 τ σ → 0 ≤ x3.toInt → x3.toInt ≤ 31 → 0 ≤ x4.toInt → x4.toInt ≤ 40 → 40 - x4.toInt < (n : Int) → Ok (fun z => IvC 0 τ z.2 ∧ 0 ≤ z.1.toInt ∧ z.1.toInt ≤ 1) (fX5_seatSet_123 τ b1 n σ x3 x4) := by
  have hFU : ((FU : Nat) : Int) = 100000 := rfl
  intro n
  induction n with
  | zero => intro σ x3 x4 hI p9000 p9001 p9002 p9003 hm; exfalso; omega
  | succ n ih =>
    intro σ x3 x4 hI p9000 p9001 p9002 p9003 hm
    unfold fX5_seatSet_123
    have : 0 ≤ (σ.1 3 3).toInt ∧ (σ.1 3 3).toInt ≤ 40 := hI.1 3 3
    refine ok_le (fun h1 => ?_) (fun h1 => ?_)
    · have : (1 : Int32).toInt = 1 := by decide
      exact ok_some ⟨hI, by show 0 ≤ (1 : Int32).toInt; omega, by show (1 : Int32).toInt ≤ 1; omega⟩
    · have := i32_rng (σ.1 182 1)
      refine ok_bi (sX4_placeOf τ σ x4 (σ.1 182 1) hI (by omega) (by omega)) (fun r1 hr2 => ?_)
      obtain ⟨p3, p4⟩ := hr2
      have p3 : 0 ≤ r1.toInt := p3
      have p4 : r1.toInt ≤ 999 := p4
      refine ok_bs (sX1_choose τ 0 σ r1 hI (by omega) (by omega)) (fun r3 σ4 hr5 => ?_)
      have hr5 : IvC 0 τ σ4 := hr5
      refine ok_ck (by omega) (by omega) ?_
      refine ok_ck (by omega) (by omega) ?_
      have := i32_rng (σ4.1 14 4)
      refine ok_nm (fun σ7 hs7 => ?_)
      have hI8 : IvC 0 τ σ7 := by rw [hs7]; exact IvC.wR6 hr5 (by have := i32_nat (i := x3) (by omega); omega) (i32_rng _).1 (i32_rng _).2
      have : (1 : Int32).toInt = 1 := by decide
      have : ((x4 + 1) : Int32).toInt = (x4 : Int32).toInt + (1 : Int32).toInt := i32_add (by omega) (by omega)
      refine ok_nmI (fun v8 hv8 he9 => ?_)
      exact ih σ7 x3 v8 hI8 (by omega) (by omega) (by omega) (by omega) (by omega)

theorem sX5_seatSet_84 (τ : Nat) (b1 : Nat) (k8 : S2 → Int32 → Int32 → Option (Int32 × S2)) (σ : S2) (x3 : Int32) (x4 : Int32) (hI : IvC 0 τ σ) (p9000 : 0 ≤ x3.toInt) (p9001 : x3.toInt ≤ 31) (p9002 : 0 ≤ x4.toInt) (p9003 : x4.toInt ≤ 4) (hk8 : ∀ (y0 : S2) (y1 : Int32) (y2 : Int32), IvC 0 τ y0 → 0 ≤ y1.toInt → y1.toInt ≤ 31 → 0 ≤ y2.toInt → y2.toInt ≤ 5 → x4.toInt + 1 ≤ y2.toInt → Ok (fun z => IvC 0 τ z.2 ∧ 0 ≤ z.1.toInt ∧ z.1.toInt ≤ 1) (k8 y0 y1 y2)) : Ok (fun z => IvC 0 τ z.2 ∧ 0 ≤ z.1.toInt ∧ z.1.toInt ≤ 1) (fX5_seatSet_84 τ b1 k8 σ x3 x4) := by
  have hFU : ((FU : Nat) : Int) = 100000 := rfl
  unfold fX5_seatSet_84
  have : (1 : Int32).toInt = 1 := by decide
  have : ((x4 + 1) : Int32).toInt = (x4 : Int32).toInt + (1 : Int32).toInt := i32_add (by omega) (by omega)
  refine ok_nmI (fun v9 hv9 he1 => ?_)
  exact hk8 σ x3 v9 hI (by omega) (by omega) (by omega) (by omega) (by omega)

theorem sX5_seatSet_83 (τ : Nat) (b1 : Nat) (k8 : S2 → Int32 → Int32 → Option (Int32 × S2)) (σ : S2) (x3 : Int32) (x4 : Int32) (s0 : Int32) (s1 : Int32) (hI : IvC 0 τ σ) (p9000 : 0 ≤ x3.toInt) (p9001 : x3.toInt ≤ 31) (p9002 : 0 ≤ x4.toInt) (p9003 : x4.toInt ≤ 4) (p9004 : 0 ≤ s0.toInt) (p9005 : s0.toInt ≤ 16) (p9006 : 0 ≤ s1.toInt) (p9007 : s1.toInt ≤ 11) (hk8 : ∀ (y0 : S2) (y1 : Int32) (y2 : Int32), IvC 0 τ y0 → 0 ≤ y1.toInt → y1.toInt ≤ 31 → 0 ≤ y2.toInt → y2.toInt ≤ 5 → x4.toInt + 1 ≤ y2.toInt → Ok (fun z => IvC 0 τ z.2 ∧ 0 ≤ z.1.toInt ∧ z.1.toInt ≤ 1) (k8 y0 y1 y2)) : Ok (fun z => IvC 0 τ z.2 ∧ 0 ≤ z.1.toInt ∧ z.1.toInt ≤ 1) (fX5_seatSet_83 τ b1 k8 σ x3 x4 s0 s1) := by
  have hFU : ((FU : Nat) : Int) = 100000 := rfl
  unfold fX5_seatSet_83
  refine ok_ck (by omega) (by omega) ?_
  refine ok_nm (fun σ10 hs1 => ?_)
  have hI2 : IvC 0 τ σ10 := by rw [hs1]; exact IvC.wT (b := 0) (j := 1) hI (by decide) (by decide) (show 0 ≤ (s0 : Int32).toInt by omega) (show (s0 : Int32).toInt ≤ 16 by omega)
  exact sX5_seatSet_84 τ b1 k8 σ10 x3 x4 hI2 (by omega) (by omega) (by omega) (by omega) (fun y0 y1 y2 q0 q1 q2 q3 q4 q5 => hk8 y0 y1 y2 q0 q1 q2 q3 q4 (by omega))

theorem sX5_seatSet_8 (τ : Nat) (b1 : Nat) : ∀ (n : Nat) (σ : S2) (x3 : Int32) (x4 : Int32), IvC 0 τ σ → 0 ≤ x3.toInt → x3.toInt ≤ 31 → 0 ≤ x4.toInt → x4.toInt ≤ 5 → 5 - x4.toInt < (n : Int) → Ok (fun z => IvC 0 τ z.2 ∧ 0 ≤ z.1.toInt ∧ z.1.toInt ≤ 1) (fX5_seatSet_8 τ b1 n σ x3 x4) := by
  have hFU : ((FU : Nat) : Int) = 100000 := rfl
  intro n
  induction n with
  | zero => intro σ x3 x4 hI p9000 p9001 p9002 p9003 hm; exfalso; omega
  | succ n ih =>
    intro σ x3 x4 hI p9000 p9001 p9002 p9003 hm
    unfold fX5_seatSet_8
    have : 0 ≤ (σ.1 27 1).toInt ∧ (σ.1 27 1).toInt ≤ 5 := hI.1 27 1
    refine ok_le (fun h1 => ?_) (fun h1 => ?_)
    · have := i32_rng (σ.1 182 0)
      have : (0 : Int32).toInt = 0 := by decide
      refine ok_eq (fun h2 => ?_) (fun h2 => ?_)
      · exact ok_some ⟨hI, by show 0 ≤ (0 : Int32).toInt; omega, by show (0 : Int32).toInt ≤ 1; omega⟩
      · refine ok_bs (sX3_workOut τ σ hI) (fun r11 σ12 hr3 => ?_)
        have hr3 : IvC 0 τ σ12 := hr3
        have := i32_rng (σ12.1 (182 + (6 * b1)) 1)
        refine ok_bs (sX8_seatAll τ 0 σ12 (σ12.1 (182 + (6 * b1)) 1) hr3) (fun r14 σ15 hr5 => ?_)
        have hr5 : IvC 0 τ σ15 := hr5
        exact sX5_seatSet_123 τ b1 FU σ15 x3 0 hr5 (by omega) (by omega) (by omega) (by omega) (by omega)
    · have : (31 : Int32).toInt = 31 := by decide
      have := i32_andR (a := x4) (m := 31) (by omega)
      have := i32_andL (a := x4) (m := 31) (by omega)
      have := i32_sar (a := x3) (k := (x4 &&& 31)) (by omega)
      have : (1 : Int32).toInt = 1 := by decide
      have := i32_andR (a := (x3 >>> (x4 &&& 31))) (m := 1) (by omega)
      have : (0 : Int32).toInt = 0 := by decide
      refine ok_eq (fun h7 => ?_) (fun h7 => ?_)
      · exact sX5_seatSet_84 τ b1 (fX5_seatSet_8 τ b1 n) σ x3 x4 hI (by omega) (by omega) (by omega) (by omega) (fun y0 y1 y2 q0 q1 q2 q3 q4 q5 => ih y0 y1 y2 q0 q1 q2 q3 q4 (by omega))
      · refine ok_ck (by omega) (by omega) ?_
        have : 0 ≤ (σ.1 28 (Int32.toNatClampNeg x4)).toInt ∧ (σ.1 28 (Int32.toNatClampNeg x4)).toInt ≤ 11 := hI.1 28 (Int32.toNatClampNeg x4)
        refine ok_nmI (fun v17 hv17 he8 => ?_)
        have := i32_rng (σ.1 182 0)
        have := i32_andR (a := v17) (m := 31) (by omega)
        have := i32_andL (a := v17) (m := 31) (by omega)
        have : 1 ≤ ((1 <<< (v17 &&& 31)) : Int32).toInt ∧ ((1 <<< (v17 &&& 31)) : Int32).toInt ≤ 2048 := i32_shlB 11 (by omega) (by omega) (by decide)
        have := i32_rng ((σ.1 182 0) ^^^ (1 <<< (v17 &&& 31)))
        refine ok_nm (fun σ18 hs9 => ?_)
        have hI10 : IvC 0 τ σ18 := by rw [hs9]; exact IvC.wT0 (b := 0) hI (by decide) (i32_rng _).1 (i32_rng _).2
        have : (σ18.1 27 1).toInt = (σ.1 27 1).toInt := by rw [hs9]; rfl
        have := i32_rng (σ18.1 182 0)
        have := i32_rng ((σ18.1 182 0) >>> (v17 &&& 31))
        have := i32_andR (a := ((σ18.1 182 0) >>> (v17 &&& 31))) (m := 1) (by omega)
        refine ok_eq (fun h11 => ?_) (fun h11 => ?_)
        · refine ok_bi (sX2_counting τ σ18 v17 hI10 (by omega) (by omega)) (fun r19 hr12 => ?_)
          obtain ⟨p13, p14⟩ := hr12
          have p13 : 0 ≤ r19.toInt := p13
          have p14 : r19.toInt ≤ 16 := p14
          exact sX5_seatSet_83 τ b1 (fX5_seatSet_8 τ b1 n) σ18 x3 x4 r19 v17 hI10 (by omega) (by omega) (by omega) (by omega) (by omega) (by omega) (by omega) (by omega) (fun y0 y1 y2 q0 q1 q2 q3 q4 q5 => ih y0 y1 y2 q0 q1 q2 q3 q4 (by omega))
        · exact sX5_seatSet_83 τ b1 (fX5_seatSet_8 τ b1 n) σ18 x3 x4 0 v17 hI10 (by omega) (by omega) (by omega) (by omega) (by omega) (by omega) (by omega) (by omega) (fun y0 y1 y2 q0 q1 q2 q3 q4 q5 => ih y0 y1 y2 q0 q1 q2 q3 q4 (by omega))

theorem sX5_seatSet_0 (τ : Nat) (b1 : Nat) (σ : S2) (x3 : Int32) (hI : IvC 0 τ σ) (p9000 : 0 ≤ x3.toInt) (p9001 : x3.toInt ≤ 31)  : Ok (fun z => IvC 0 τ z.2 ∧ 0 ≤ z.1.toInt ∧ z.1.toInt ≤ 1) (fX5_seatSet_0 τ b1 σ x3) := by
  have hFU : ((FU : Nat) : Int) = 100000 := rfl
  unfold fX5_seatSet_0
  refine ok_bs (sX8_takeAll τ 0 b1 σ hI) (fun r21 σ22 hr1 => ?_)
  have hr1 : IvC 0 τ σ22 := hr1
  have : (0 : Int32).toInt = 0 := by decide
  exact sX5_seatSet_8 τ b1 FU σ22 x3 0 hr1 (by omega) (by omega) (by omega) (by omega) (by omega)

theorem sX5_seatSet (τ : Nat) (b1 : Nat) (σ : S2) (a3 : Int32) (hI : IvC 0 τ σ) (p9000 : 0 ≤ a3.toInt) (p9001 : a3.toInt ≤ 31)  : Ok (fun z => IvC 0 τ z.2 ∧ 0 ≤ z.1.toInt ∧ z.1.toInt ≤ 1) (fX5_seatSet τ b1 σ a3) := by
  unfold fX5_seatSet
  exact sX5_seatSet_0 τ b1 σ a3 hI (by assumption) (by assumption)

theorem sX5_sumOver_29 (τ : Nat) : ∀ (n : Nat) (σ : S2) (x1 : Int32) (x3 : Int32) (x4 : Int32) (x5 : Int32), IvC 0 τ σ → 0 ≤ x1.toInt → x1.toInt ≤ 31 → 0 ≤ x3.toInt → x3.toInt ≤ 31 → 0 ≤ x5.toInt → x5.toInt ≤ 40 → 40 - x5.toInt < (n : Int) → Ok (fun z => True) (fX5_sumOver_29 τ n σ x1 x3 x4 x5) := by
  have hFU : ((FU : Nat) : Int) = 100000 := rfl
  intro n
  induction n with
  | zero => intro σ x1 x3 x4 x5 hI p9000 p9001 p9002 p9003 p9004 p9005 hm; exfalso; omega
  | succ n ih =>
    intro σ x1 x3 x4 x5 hI p9000 p9001 p9002 p9003 p9004 p9005 hm
    unfold fX5_sumOver_29
    have : 0 ≤ (σ.1 3 3).toInt ∧ (σ.1 3 3).toInt ≤ 40 := hI.1 3 3
    refine ok_le (fun h1 => ?_) (fun h1 => ?_)
    · refine ok_ck (by omega) (by omega) ?_
      have := i32_rng (σ.1 31 (Int32.toNatClampNeg x3))
      refine ok_nmI (fun v1 hv1 he2 => ?_)
      have := i32_rng x4
      have := i32_rng v1
      have := i32_rng (x4 + v1)
      exact ok_some trivial
    · refine ok_ck (by omega) (by omega) ?_
      refine ok_ck (by omega) (by omega) ?_
      have := i32_rng (σ.1 (144 + (Int32.toNatClampNeg x3)) (Int32.toNatClampNeg x5))
      refine ok_nmI (fun v3 hv3 he3 => ?_)
      refine ok_ck (by omega) (by omega) ?_
      refine ok_ck (by omega) (by omega) ?_
      have := i32_rng (σ.1 (144 + (Int32.toNatClampNeg x1)) (Int32.toNatClampNeg x5))
      refine ok_nmI (fun v5 hv5 he4 => ?_)
      have := i32_rng v3
      have := i32_rng v5
      have : ((-1) : Int32).toInt = (-1) := by decide
      have := i32_rng (v5 ^^^ (-1))
      have := i32_rng (v3 &&& (v5 ^^^ (-1)))
      refine ok_bi (sJ6_bitCount_0f7a4 τ σ (v3 &&& (v5 ^^^ (-1))) hI) (fun r6 hr5 => ?_)
      obtain ⟨p6, p7⟩ := hr5
      have p6 : 0 ≤ r6.toInt := p6
      have p7 : r6.toInt ≤ 63 := p7
      have := i32_rng x4
      have := i32_rng (x4 + r6)
      refine ok_nmI (fun v8 hv8 he8 => ?_)
      have : (1 : Int32).toInt = 1 := by decide
      have : ((x5 + 1) : Int32).toInt = (x5 : Int32).toInt + (1 : Int32).toInt := i32_add (by omega) (by omega)
      refine ok_nmI (fun v9 hv9 he9 => ?_)
      have := i32_rng v8
      exact ih σ x1 x3 v8 v9 hI (by omega) (by omega) (by omega) (by omega) (by omega) (by omega) (by omega)

theorem sX5_sumOver_0 (τ : Nat) (σ : S2) (x1 : Int32) (x2 : Int32) (hI : IvC 0 τ σ) (p9000 : 0 ≤ x1.toInt) (p9001 : x1.toInt ≤ 31) (p9002 : 0 ≤ x2.toInt) (p9003 : x2.toInt ≤ 4)  : Ok (fun z => True) (fX5_sumOver_0 τ σ x1 x2) := by
  have hFU : ((FU : Nat) : Int) = 100000 := rfl
  unfold fX5_sumOver_0
  have : (1 : Int32).toInt = 1 := by decide
  have : (31 : Int32).toInt = 31 := by decide
  have := i32_andR (a := x2) (m := 31) (by omega)
  have := i32_andL (a := x2) (m := 31) (by omega)
  have : 1 ≤ ((1 <<< (x2 &&& 31)) : Int32).toInt ∧ ((1 <<< (x2 &&& 31)) : Int32).toInt ≤ 16 := i32_shlB 4 (by omega) (by omega) (by decide)
  have := i32_orB (a := x1) (b := (1 <<< (x2 &&& 31))) 5 31 (by decide) (by decide) (by omega) (by omega) (by omega) (by omega)
  refine ok_nmI (fun v10 hv10 he1 => ?_)
  refine ok_eq (fun h2 => ?_) (fun h2 => ?_)
  · have : ((-1) : Int32).toInt = (-1) := by decide
    exact ok_some trivial
  · refine ok_ck (by omega) (by omega) ?_
    have := i32_rng (σ.1 31 (Int32.toNatClampNeg v10))
    refine ok_nmI (fun v11 hv11 he3 => ?_)
    have := i32_rng v11
    have : ((-1) : Int32).toInt = (-1) := by decide
    refine ok_eq (fun h4 => ?_) (fun h4 => ?_)
    · exact ok_some trivial
    · have : (0 : Int32).toInt = 0 := by decide
      exact sX5_sumOver_29 τ FU σ x1 v10 0 0 hI (by omega) (by omega) (by omega) (by omega) (by omega) (by omega) (by omega)

theorem sX5_sumOver (τ : Nat) (σ : S2) (a1 : Int32) (a2 : Int32) (hI : IvC 0 τ σ) (p9000 : 0 ≤ a1.toInt) (p9001 : a1.toInt ≤ 31) (p9002 : 0 ≤ a2.toInt) (p9003 : a2.toInt ≤ 4)  : Ok (fun z => True) (fX5_sumOver τ σ a1 a2) := by
  unfold fX5_sumOver
  exact sX5_sumOver_0 τ σ a1 a2 hI (by assumption) (by assumption) (by assumption) (by assumption)

theorem sX5_leastOnward_40 (τ : Nat) (k4 : S2 → Int32 → Int32 → Int32 → Option Int32) (σ : S2) (x1 : Int32) (x2 : Int32) (x3 : Int32) (hI : IvC 0 τ σ) (p9000 : 0 ≤ x1.toInt) (p9001 : x1.toInt ≤ 31) (p9002 : 0 ≤ x3.toInt) (p9003 : x3.toInt ≤ 4) (hk4 : ∀ (y0 : S2) (y1 : Int32) (y2 : Int32) (y3 : Int32), IvC 0 τ y0 → 0 ≤ y1.toInt → y1.toInt ≤ 31 → 0 ≤ y3.toInt → y3.toInt ≤ 5 → x3.toInt + 1 ≤ y3.toInt → Ok (fun z => True) (k4 y0 y1 y2 y3)) : Ok (fun z => True) (fX5_leastOnward_40 τ k4 σ x1 x2 x3) := by
  have hFU : ((FU : Nat) : Int) = 100000 := rfl
  unfold fX5_leastOnward_40
  have : (1 : Int32).toInt = 1 := by decide
  have : ((x3 + 1) : Int32).toInt = (x3 : Int32).toInt + (1 : Int32).toInt := i32_add (by omega) (by omega)
  refine ok_nmI (fun v1 hv1 he1 => ?_)
  have := i32_rng x2
  exact hk4 σ x1 x2 v1 hI (by omega) (by omega) (by omega) (by omega) (by omega)

theorem sX5_leastOnward_37 (τ : Nat) (k4 : S2 → Int32 → Int32 → Int32 → Option Int32) (σ : S2) (x1 : Int32) (x3 : Int32) (x4 : Int32) (hI : IvC 0 τ σ) (p9000 : 0 ≤ x1.toInt) (p9001 : x1.toInt ≤ 31) (p9002 : 0 ≤ x3.toInt) (p9003 : x3.toInt ≤ 4) (hk4 : ∀ (y0 : S2) (y1 : Int32) (y2 : Int32) (y3 : Int32), IvC 0 τ y0 → 0 ≤ y1.toInt → y1.toInt ≤ 31 → 0 ≤ y3.toInt → y3.toInt ≤ 5 → x3.toInt + 1 ≤ y3.toInt → Ok (fun z => True) (k4 y0 y1 y2 y3)) : Ok (fun z => True) (fX5_leastOnward_37 τ k4 σ x1 x3 x4) := by
  have hFU : ((FU : Nat) : Int) = 100000 := rfl
  unfold fX5_leastOnward_37
  have := i32_rng x4
  exact sX5_leastOnward_40 τ k4 σ x1 x4 x3 hI (by omega) (by omega) (by omega) (by omega) (fun y0 y1 y2 y3 q0 q1 q2 q3 q4 q5 => hk4 y0 y1 y2 y3 q0 q1 q2 q3 q4 (by omega))

theorem sX5_leastOnward_4 (τ : Nat) : ∀ (n : Nat) (σ : S2) (x1 : Int32) (x2 : Int32) (x3 : Int32), IvC 0 τ σ → 0 ≤ x1.toInt → x1.toInt ≤ 31 → 0 ≤ x3.toInt → x3.toInt ≤ 5 → 5 - x3.toInt < (n : Int) → Ok (fun z => True) (fX5_leastOnward_4 τ n σ x1 x2 x3) := by
  have hFU : ((FU : Nat) : Int) = 100000 := rfl
  intro n
  induction n with
  | zero => intro σ x1 x2 x3 hI p9000 p9001 p9002 p9003 hm; exfalso; omega
  | succ n ih =>
    intro σ x1 x2 x3 hI p9000 p9001 p9002 p9003 hm
    unfold fX5_leastOnward_4
    have : 0 ≤ (σ.1 27 1).toInt ∧ (σ.1 27 1).toInt ≤ 5 := hI.1 27 1
    refine ok_le (fun h1 => ?_) (fun h1 => ?_)
    · have := i32_rng x2
      exact ok_some trivial
    · refine ok_bi (sX5_sumOver τ σ x1 x3 hI (by omega) (by omega) (by omega) (by omega)) (fun r2 hr2 => ?_)
      have := i32_rng r2
      have : ((-1) : Int32).toInt = (-1) := by decide
      refine ok_eq (fun h3 => ?_) (fun h3 => ?_)
      · have := i32_rng x2
        exact sX5_leastOnward_40 τ (fX5_leastOnward_4 τ n) σ x1 x2 x3 hI (by omega) (by omega) (by omega) (by omega) (fun y0 y1 y2 y3 q0 q1 q2 q3 q4 q5 => ih y0 y1 y2 y3 q0 q1 q2 q3 q4 (by omega))
      · have := i32_rng x2
        refine ok_eq (fun h4 => ?_) (fun h4 => ?_)
        · exact sX5_leastOnward_37 τ (fX5_leastOnward_4 τ n) σ x1 x3 r2 hI (by omega) (by omega) (by omega) (by omega) (fun y0 y1 y2 y3 q0 q1 q2 q3 q4 q5 => ih y0 y1 y2 y3 q0 q1 q2 q3 q4 (by omega))
        · refine ok_le (fun h5 => ?_) (fun h5 => ?_)
          · exact sX5_leastOnward_40 τ (fX5_leastOnward_4 τ n) σ x1 x2 x3 hI (by omega) (by omega) (by omega) (by omega) (fun y0 y1 y2 y3 q0 q1 q2 q3 q4 q5 => ih y0 y1 y2 y3 q0 q1 q2 q3 q4 (by omega))
          · exact sX5_leastOnward_37 τ (fX5_leastOnward_4 τ n) σ x1 x3 r2 hI (by omega) (by omega) (by omega) (by omega) (fun y0 y1 y2 y3 q0 q1 q2 q3 q4 q5 => ih y0 y1 y2 y3 q0 q1 q2 q3 q4 (by omega))

theorem sX5_leastOnward_0 (τ : Nat) (σ : S2) (x1 : Int32) (hI : IvC 0 τ σ) (p9000 : 0 ≤ x1.toInt) (p9001 : x1.toInt ≤ 31)  : Ok (fun z => True) (fX5_leastOnward_0 τ σ x1) := by
  have hFU : ((FU : Nat) : Int) = 100000 := rfl
  unfold fX5_leastOnward_0
  have : ((-1) : Int32).toInt = (-1) := by decide
  have : (0 : Int32).toInt = 0 := by decide
  exact sX5_leastOnward_4 τ FU σ x1 (-1) 0 hI (by omega) (by omega) (by omega) (by omega) (by omega)

theorem sX5_leastOnward (τ : Nat) (σ : S2) (a1 : Int32) (hI : IvC 0 τ σ) (p9000 : 0 ≤ a1.toInt) (p9001 : a1.toInt ≤ 31)  : Ok (fun z => True) (fX5_leastOnward τ σ a1) := by
  unfold fX5_leastOnward
  exact sX5_leastOnward_0 τ σ a1 hI (by assumption) (by assumption)

theorem sX5_nextOf_37 (τ : Nat) (k2 : S2 → Int32 → Int32 → Option Int32) (σ : S2) (x1 : Int32) (x2 : Int32) (hI : IvC 0 τ σ) (p9000 : 0 ≤ x1.toInt) (p9001 : x1.toInt ≤ 31) (p9002 : 0 ≤ x2.toInt) (p9003 : x2.toInt ≤ 4) (hk2 : ∀ (y0 : S2) (y1 : Int32) (y2 : Int32), IvC 0 τ y0 → 0 ≤ y1.toInt → y1.toInt ≤ 31 → 0 ≤ y2.toInt → y2.toInt ≤ 5 → x2.toInt + 1 ≤ y2.toInt → Ok (fun z => 0 ≤ z.toInt ∧ z.toInt ≤ 4) (k2 y0 y1 y2)) : Ok (fun z => 0 ≤ z.toInt ∧ z.toInt ≤ 4) (fX5_nextOf_37 τ k2 σ x1 x2) := by
  have hFU : ((FU : Nat) : Int) = 100000 := rfl
  unfold fX5_nextOf_37
  have : (1 : Int32).toInt = 1 := by decide
  have : ((x2 + 1) : Int32).toInt = (x2 : Int32).toInt + (1 : Int32).toInt := i32_add (by omega) (by omega)
  refine ok_nmI (fun v1 hv1 he1 => ?_)
  exact hk2 σ x1 v1 hI (by omega) (by omega) (by omega) (by omega) (by omega)

theorem sX5_nextOf_2 (τ : Nat) : ∀ (n : Nat) (σ : S2) (x1 : Int32) (x2 : Int32), IvC 0 τ σ → 0 ≤ x1.toInt → x1.toInt ≤ 31 → 0 ≤ x2.toInt → x2.toInt ≤ 5 → 5 - x2.toInt < (n : Int) → Ok (fun z => 0 ≤ z.toInt ∧ z.toInt ≤ 4) (fX5_nextOf_2 τ n σ x1 x2) := by
  have hFU : ((FU : Nat) : Int) = 100000 := rfl
  intro n
  induction n with
  | zero => intro σ x1 x2 hI p9000 p9001 p9002 p9003 hm; exfalso; omega
  | succ n ih =>
    intro σ x1 x2 hI p9000 p9001 p9002 p9003 hm
    unfold fX5_nextOf_2
    have : 0 ≤ (σ.1 27 1).toInt ∧ (σ.1 27 1).toInt ≤ 5 := hI.1 27 1
    refine ok_le (fun h1 => ?_) (fun h1 => ?_)
    · have : (0 : Int32).toInt = 0 := by decide
      exact ok_some ⟨by show 0 ≤ (0 : Int32).toInt; omega, by show (0 : Int32).toInt ≤ 4; omega⟩
    · refine ok_bi (sX5_sumOver τ σ x1 x2 hI (by omega) (by omega) (by omega) (by omega)) (fun r2 hr2 => ?_)
      refine ok_ck (by omega) (by omega) ?_
      have := i32_rng (σ.1 31 (Int32.toNatClampNeg x1))
      refine ok_nmI (fun v4 hv4 he3 => ?_)
      have := i32_rng r2
      have := i32_rng v4
      refine ok_eq (fun h4 => ?_) (fun h4 => ?_)
      · refine ok_ck (by omega) (by omega) ?_
        refine ok_nmI (fun v5 hv5 he5 => ?_)
        have := i32_rng v5
        have : ((-1) : Int32).toInt = (-1) := by decide
        refine ok_eq (fun h6 => ?_) (fun h6 => ?_)
        · exact sX5_nextOf_37 τ (fX5_nextOf_2 τ n) σ x1 x2 hI (by omega) (by omega) (by omega) (by omega) (fun y0 y1 y2 q0 q1 q2 q3 q4 q5 => ih y0 y1 y2 q0 q1 q2 q3 q4 (by omega))
        · exact ok_some ⟨by show 0 ≤ x2.toInt; omega, by show x2.toInt ≤ 4; omega⟩
      · exact sX5_nextOf_37 τ (fX5_nextOf_2 τ n) σ x1 x2 hI (by omega) (by omega) (by omega) (by omega) (fun y0 y1 y2 q0 q1 q2 q3 q4 q5 => ih y0 y1 y2 q0 q1 q2 q3 q4 (by omega))

theorem sX5_nextOf_0 (τ : Nat) (σ : S2) (x1 : Int32) (hI : IvC 0 τ σ) (p9000 : 0 ≤ x1.toInt) (p9001 : x1.toInt ≤ 31)  : Ok (fun z => 0 ≤ z.toInt ∧ z.toInt ≤ 4) (fX5_nextOf_0 τ σ x1) := by
  have hFU : ((FU : Nat) : Int) = 100000 := rfl
  unfold fX5_nextOf_0
  have : (0 : Int32).toInt = 0 := by decide
  exact sX5_nextOf_2 τ FU σ x1 0 hI (by omega) (by omega) (by omega) (by omega) (by omega)

theorem sX5_nextOf (τ : Nat) (σ : S2) (a1 : Int32) (hI : IvC 0 τ σ) (p9000 : 0 ≤ a1.toInt) (p9001 : a1.toInt ≤ 31)  : Ok (fun z => 0 ≤ z.toInt ∧ z.toInt ≤ 4) (fX5_nextOf τ σ a1) := by
  unfold fX5_nextOf
  exact sX5_nextOf_0 τ σ a1 hI (by assumption) (by assumption)

theorem sX5_walk_9 (τ : Nat) : ∀ (n : Nat) (σ : S2) (x1 : Int32) (x2 : Int32) (x3 : Int32), IvC 0 τ σ → 0 ≤ x1.toInt → x1.toInt ≤ 31 → 0 ≤ x2.toInt → x2.toInt ≤ 31 → 0 ≤ x3.toInt → x3.toInt ≤ 5 → (σ.1 27 3).toInt ≤ x3.toInt → 5 - x3.toInt < (n : Int) → Ok (fun z => IvC 0 τ z.2) (fX5_walk_9 τ n σ x1 x2 x3) := by
  have hFU : ((FU : Nat) : Int) = 100000 := rfl
  intro n
  induction n with
  | zero => intro σ x1 x2 x3 hI p9000 p9001 p9002 p9003 p9004 p9005 p9006 hm; exfalso; omega
  | succ n ih =>
    intro σ x1 x2 x3 hI p9000 p9001 p9002 p9003 p9004 p9005 p9006 hm
    unfold fX5_walk_9
    have : 0 ≤ (σ.1 27 1).toInt ∧ (σ.1 27 1).toInt ≤ 5 := hI.1 27 1
    refine ok_le (fun h1 => ?_) (fun h1 => ?_)
    · exact ok_some hI
    · refine ok_eq (fun h2 => ?_) (fun h2 => ?_)
      · exact ok_some hI
      · refine ok_bi (sX5_nextOf τ σ x2 hI (by omega) (by omega)) (fun r1 hr3 => ?_)
        obtain ⟨p4, p5⟩ := hr3
        have p4 : 0 ≤ r1.toInt := p4
        have p5 : r1.toInt ≤ 4 := p5
        have : 0 ≤ (σ.1 27 3).toInt ∧ (σ.1 27 3).toInt ≤ 5 := hI.1 27 3
        refine ok_ck (by omega) (by omega) ?_
        refine ok_nm (fun σ3 hs6 => ?_)
        have hI7 : IvC 0 τ σ3 := by rw [hs6]; exact IvC.wF hI (by decide) (by omega) (show 0 ≤ (r1 : Int32).toInt by omega) (show (r1 : Int32).toInt ≤ 4 by omega)
        have : (σ3.1 27 3).toInt = (σ.1 27 3).toInt := by rw [hs6]; rfl
        have : (σ3.1 27 1).toInt = (σ.1 27 1).toInt := by rw [hs6]; rfl
        have : 0 ≤ (σ3.1 27 3).toInt ∧ (σ3.1 27 3).toInt ≤ 5 := hI7.1 27 3
        have : (1 : Int32).toInt = 1 := by decide
        have : (((σ3.1 27 3) + 1) : Int32).toInt = ((σ3.1 27 3) : Int32).toInt + (1 : Int32).toInt := i32_add (by omega) (by omega)
        refine ok_nm (fun σ4 hs8 => ?_)
        have hI9 : IvC 0 τ σ4 := by rw [hs8]; exact IvC.wF hI7 (by decide) (by omega) (show 0 ≤ (((σ3.1 27 3) + 1) : Int32).toInt by omega) (show (((σ3.1 27 3) + 1) : Int32).toInt ≤ 5 by omega)
        have : (σ4.1 27 3).toInt = (((σ3.1 27 3) + 1) : Int32).toInt := by rw [hs8]; rfl
        have : (σ4.1 27 1).toInt = (σ3.1 27 1).toInt := by rw [hs8]; rfl
        have : (31 : Int32).toInt = 31 := by decide
        have := i32_andR (a := r1) (m := 31) (by omega)
        have := i32_andL (a := r1) (m := 31) (by omega)
        have : 1 ≤ ((1 <<< (r1 &&& 31)) : Int32).toInt ∧ ((1 <<< (r1 &&& 31)) : Int32).toInt ≤ 16 := i32_shlB 4 (by omega) (by omega) (by decide)
        have := i32_orB (a := x2) (b := (1 <<< (r1 &&& 31))) 5 31 (by decide) (by decide) (by omega) (by omega) (by omega) (by omega)
        refine ok_nmI (fun v5 hv5 he10 => ?_)
        have : ((x3 + 1) : Int32).toInt = (x3 : Int32).toInt + (1 : Int32).toInt := i32_add (by omega) (by omega)
        refine ok_nmI (fun v6 hv6 he11 => ?_)
        exact ih σ4 x1 v5 v6 hI9 (by omega) (by omega) (by omega) (by omega) (by omega) (by omega) (by omega) (by omega)

