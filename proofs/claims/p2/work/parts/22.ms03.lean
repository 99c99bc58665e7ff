theorem sX12_mend_14 {g : Nat} : ∀ (n : Nat) (σ : S2) (x1 : Int32) (x2 : Int32) (x3 : Int32), IvM g σ → 0 ≤ x1.toInt → x1.toInt ≤ 9 → 0 ≤ x3.toInt → x3.toInt ≤ 40 → (x1.toInt < (σ.1 0 9).toInt ∨ (x1.toInt = 10 ∧ g = 0)) → 40 - x3.toInt < (n : Int) → Ok (fun z => IvM g z.2) (fX12_mend_14 n σ x1 x2 x3) := by
  have hFU : ((FU : Nat) : Int) = 100000 := rfl
  intro n
  induction n with
  | zero => intro σ x1 x2 x3 hI p9000 p9001 p9002 p9003 p9004 hm; exfalso; omega
  | succ n ih =>
    intro σ x1 x2 x3 hI p9000 p9001 p9002 p9003 p9004 hm
    unfold fX12_mend_14
    have : 0 ≤ (σ.1 0 0).toInt ∧ (σ.1 0 0).toInt ≤ 40 := hI.1 0 0
    refine ok_le (fun h1 => ?_) (fun h1 => ?_)
    · have := i32_rng x2
      exact ok_some hI
    · have := i32_rng x2
      have : (0 : Int32).toInt = 0 := by decide
      exact sX12_mend_28 (fX12_mend_14 n) FU σ x1 x2 x3 0 0 hI (by omega) (by omega) (by omega) (by omega) (by omega) (by omega) (by omega) (by omega) (by omega) (fun y0 y1 y2 y3 q0 q1 q2 q3 q4 q5 q6 => ih y0 y1 y2 y3 q0 q1 q2 q3 q4 q5 (by omega))

theorem sX12_mend_0 {g : Nat} (σ : S2) (x1 : Int32) (hI : IvM g σ)   : Ok (fun z => IvM g z.2) (fX12_mend_0 σ x1) := by
  have hFU : ((FU : Nat) : Int) = 100000 := rfl
  unfold fX12_mend_0
  have := i32_rng x1
  refine ok_bi (sX12_isTable σ x1 hI) (fun r21 hr1 => ?_)
  obtain ⟨p2, p3, p4⟩ := hr1
  have p2 : 0 ≤ r21.toInt := p2
  have p3 : r21.toInt ≤ 1 := p3
  have p4 : r21.toInt ≠ 0 → 0 ≤ x1.toInt ∧ x1.toInt < (σ.1 0 9).toInt := p4
  have : 0 ≤ (σ.1 0 9).toInt ∧ (σ.1 0 9).toInt ≤ 10 := hI.1 0 9
  have : (0 : Int32).toInt = 0 := by decide
  refine ok_eq (fun h5 => ?_) (fun h5 => ?_)
  · have : ((-1) : Int32).toInt = (-1) := by decide
    exact ok_some hI
  · exact sX12_mend_14 FU σ x1 0 0 hI (by omega) (by omega) (by omega) (by omega) (by omega) (by omega)

theorem sX12_mend {g : Nat} (σ : S2) (a1 : Int32) (hI : IvM g σ)   : Ok (fun z => IvM g z.2) (fX12_mend σ a1) := by
  unfold fX12_mend
  exact sX12_mend_0 σ a1 hI

theorem sX12_leafOf_5 {g : Nat} : ∀ (n : Nat) (σ : S2) (x1 : Int32) (x3 : Int32) (x4 : Int32), IvM g σ → 0 ≤ x1.toInt → x1.toInt ≤ 11 → 0 ≤ x4.toInt → x4.toInt ≤ 47 → 47 - x4.toInt < (n : Int) → Ok (fun z => True) (fX12_leafOf_5 n σ x1 x3 x4) := by
  have hFU : ((FU : Nat) : Int) = 100000 := rfl
  intro n
  induction n with
  | zero => intro σ x1 x3 x4 hI p9000 p9001 p9002 p9003 hm; exfalso; omega
  | succ n ih =>
    intro σ x1 x3 x4 hI p9000 p9001 p9002 p9003 hm
    unfold fX12_leafOf_5
    have : 0 ≤ (σ.1 0 0).toInt ∧ (σ.1 0 0).toInt ≤ 40 := hI.1 0 0
    refine ok_le (fun h1 => ?_) (fun h1 => ?_)
    · have := i32_rng x3
      exact ok_some trivial
    · have : (40 : Int32).toInt = 40 := by decide
      have : ((40 * x1) : Int32).toInt = 40 * (x1 : Int32).toInt := i32_mulL (by omega) (by omega) (by omega)
      have : (((40 * x1) + x4) : Int32).toInt = ((40 * x1) : Int32).toInt + (x4 : Int32).toInt := i32_add (by omega) (by omega)
      refine ok_ck (by omega) (by omega) ?_
      have := i32_rng (σ.1 20 (Int32.toNatClampNeg ((40 * x1) + x4)))
      refine ok_nmI (fun v1 hv1 he2 => ?_)
      have := i32_rng x3
      have : (1 : Int32).toInt = 1 := by decide
      have : ((x4 + 1) : Int32).toInt = (x4 : Int32).toInt + (1 : Int32).toInt := i32_add (by omega) (by omega)
      have := i32_rng v1
      have := i32_rng ((x4 + 1) * v1)
      have := i32_rng (x3 + ((x4 + 1) * v1))
      refine ok_nmI (fun v2 hv2 he3 => ?_)
      have : (8 : Int32).toInt = 8 := by decide
      have : ((x4 + 8) : Int32).toInt = (x4 : Int32).toInt + (8 : Int32).toInt := i32_add (by omega) (by omega)
      refine ok_nmI (fun v3 hv3 he4 => ?_)
      have := i32_rng v2
      exact ih σ x1 v2 v3 hI (by omega) (by omega) (by omega) (by omega) (by omega)

theorem sX12_leafOf_0 {g : Nat} (σ : S2) (x1 : Int32) (x2 : Int32) (hI : IvM g σ) (p9000 : 0 ≤ x1.toInt) (p9001 : x1.toInt ≤ 11) (p9002 : 0 ≤ x2.toInt) (p9003 : x2.toInt ≤ 14)  : Ok (fun z => True) (fX12_leafOf_0 σ x1 x2) := by
  have hFU : ((FU : Nat) : Int) = 100000 := rfl
  unfold fX12_leafOf_0
  have : (0 : Int32).toInt = 0 := by decide
  exact sX12_leafOf_5 FU σ x1 0 x2 hI (by omega) (by omega) (by omega) (by omega) (by omega)

theorem sX12_leafOf {g : Nat} (σ : S2) (a1 : Int32) (a2 : Int32) (hI : IvM g σ) (p9000 : 0 ≤ a1.toInt) (p9001 : a1.toInt ≤ 11) (p9002 : 0 ≤ a2.toInt) (p9003 : a2.toInt ≤ 14)  : Ok (fun z => True) (fX12_leafOf σ a1 a2) := by
  unfold fX12_leafOf
  exact sX12_leafOf_0 σ a1 a2 hI (by assumption) (by assumption) (by assumption) (by assumption)

theorem sX12_areUnlike_6 {g : Nat} : ∀ (n : Nat) (σ : S2) (x1 : Int32) (x2 : Int32) (x3 : Int32) (x4 : Int32) (x5 : Int32) (x6 : Int32), IvM g σ → 0 ≤ x1.toInt → x1.toInt ≤ 11 → 0 ≤ x2.toInt → x2.toInt ≤ 11 → 0 ≤ x3.toInt → x3.toInt ≤ 7 → 1 ≤ x4.toInt → x4.toInt ≤ 8 → 0 ≤ x6.toInt → x6.toInt ≤ 15 → 15 - x6.toInt < (n : Int) → Ok (fun z => 0 ≤ z.toInt ∧ z.toInt ≤ 1) (fX12_areUnlike_6 n σ x1 x2 x3 x4 x5 x6) := by
  have hFU : ((FU : Nat) : Int) = 100000 := rfl
  intro n
  induction n with
  | zero => intro σ x1 x2 x3 x4 x5 x6 hI p9000 p9001 p9002 p9003 p9004 p9005 p9006 p9007 p9008 p9009 hm; exfalso; omega
  | succ n ih =>
    intro σ x1 x2 x3 x4 x5 x6 hI p9000 p9001 p9002 p9003 p9004 p9005 p9006 p9007 p9008 p9009 hm
    unfold fX12_areUnlike_6
    have : ((x3 + x4) : Int32).toInt = (x3 : Int32).toInt + (x4 : Int32).toInt := i32_add (by omega) (by omega)
    refine ok_le (fun h1 => ?_) (fun h1 => ?_)
    · have := i32_rng x5
      have : (0 : Int32).toInt = 0 := by decide
      refine ok_eq (fun h2 => ?_) (fun h2 => ?_)
      · exact ok_some ⟨by show 0 ≤ (0 : Int32).toInt; omega, by show (0 : Int32).toInt ≤ 1; omega⟩
      · have : (1 : Int32).toInt = 1 := by decide
        exact ok_some ⟨by show 0 ≤ (1 : Int32).toInt; omega, by show (1 : Int32).toInt ≤ 1; omega⟩
    · refine ok_bi (sX12_leafOf σ x1 x6 hI (by omega) (by omega) (by omega) (by omega)) (fun r1 hr3 => ?_)
      refine ok_bi (sX12_leafOf σ x2 x6 hI (by omega) (by omega) (by omega) (by omega)) (fun r3 hr4 => ?_)
      have := i32_rng x5
      have := i32_rng r1
      have := i32_rng r3
      have := i32_rng (r1 - r3)
      have := i32_rng (x5 + (r1 - r3))
      refine ok_nmI (fun v5 hv5 he5 => ?_)
      have : (1 : Int32).toInt = 1 := by decide
      have : ((x6 + 1) : Int32).toInt = (x6 : Int32).toInt + (1 : Int32).toInt := i32_add (by omega) (by omega)
      refine ok_nmI (fun v6 hv6 he6 => ?_)
      have := i32_rng v5
      exact ih σ x1 x2 x3 x4 v5 v6 hI (by omega) (by omega) (by omega) (by omega) (by omega) (by omega) (by omega) (by omega) (by omega) (by omega) (by omega)

theorem sX12_areUnlike_0 {g : Nat} (σ : S2) (x1 : Int32) (x2 : Int32) (x3 : Int32) (x4 : Int32) (hI : IvM g σ) (p9000 : 0 ≤ x1.toInt) (p9001 : x1.toInt ≤ 11) (p9002 : 0 ≤ x2.toInt) (p9003 : x2.toInt ≤ 11) (p9004 : 0 ≤ x3.toInt) (p9005 : x3.toInt ≤ 7) (p9006 : 1 ≤ x4.toInt) (p9007 : x4.toInt ≤ 8)  : Ok (fun z => 0 ≤ z.toInt ∧ z.toInt ≤ 1) (fX12_areUnlike_0 σ x1 x2 x3 x4) := by
  have hFU : ((FU : Nat) : Int) = 100000 := rfl
  unfold fX12_areUnlike_0
  have : (0 : Int32).toInt = 0 := by decide
  exact sX12_areUnlike_6 FU σ x1 x2 x3 x4 0 x3 hI (by omega) (by omega) (by omega) (by omega) (by omega) (by omega) (by omega) (by omega) (by omega) (by omega) (by omega)

theorem sX12_areUnlike {g : Nat} (σ : S2) (a1 : Int32) (a2 : Int32) (a3 : Int32) (a4 : Int32) (hI : IvM g σ) (p9000 : 0 ≤ a1.toInt) (p9001 : a1.toInt ≤ 11) (p9002 : 0 ≤ a2.toInt) (p9003 : a2.toInt ≤ 11) (p9004 : 0 ≤ a3.toInt) (p9005 : a3.toInt ≤ 7) (p9006 : 1 ≤ a4.toInt) (p9007 : a4.toInt ≤ 8)  : Ok (fun z => 0 ≤ z.toInt ∧ z.toInt ≤ 1) (fX12_areUnlike σ a1 a2 a3 a4) := by
  unfold fX12_areUnlike
  exact sX12_areUnlike_0 σ a1 a2 a3 a4 hI (by assumption) (by assumption) (by assumption) (by assumption) (by assumption) (by assumption) (by assumption) (by assumption)

theorem sX12_wordsBelow_0 {g : Nat} (r : Int) (qX12_wordsBelow : S2 → Int32 → Int32 → Int32 → Int32 → Option Int32) (hqX12_wordsBelow : ∀ (σ : S2) (a1 : Int32) (a2 : Int32) (a3 : Int32) (a4 : Int32), IvM g σ → 0 ≤ a1.toInt → a1.toInt ≤ 11 → 0 ≤ a2.toInt → a2.toInt ≤ 11 → 0 ≤ a3.toInt → a3.toInt ≤ 7 → 1 ≤ a4.toInt → a4.toInt ≤ 8 → a3.toInt + a4.toInt ≤ 8 → 0 ≤ (r - 1) → (a4.toInt = 1 ∨ a4.toInt = 2 ∧ 1 ≤ (r - 1) ∨ a4.toInt = 4 ∧ 2 ≤ (r - 1) ∨ a4.toInt = 8 ∧ 3 ≤ (r - 1)) → Ok (fun z => True) (qX12_wordsBelow σ a1 a2 a3 a4)) (σ : S2) (x1 : Int32) (x2 : Int32) (x3 : Int32) (x4 : Int32) (hI : IvM g σ) (p9000 : 0 ≤ x1.toInt) (p9001 : x1.toInt ≤ 11) (p9002 : 0 ≤ x2.toInt) (p9003 : x2.toInt ≤ 11) (p9004 : 0 ≤ x3.toInt) (p9005 : x3.toInt ≤ 7) (p9006 : 1 ≤ x4.toInt) (p9007 : x4.toInt ≤ 8) (p9008 : x3.toInt + x4.toInt ≤ 8) (p9009 : 0 ≤ r) (p9010 : (x4.toInt = 1 ∨ x4.toInt = 2 ∧ 1 ≤ r ∨ x4.toInt = 4 ∧ 2 ≤ r ∨ x4.toInt = 8 ∧ 3 ≤ r))  : Ok (fun z => True) (fX12_wordsBelow_0 qX12_wordsBelow σ x1 x2 x3 x4) := by
  have hFU : ((FU : Nat) : Int) = 100000 := rfl
  unfold fX12_wordsBelow_0
  have : (1 : Int32).toInt = 1 := by decide
  refine ok_eq (fun h1 => ?_) (fun h1 => ?_)
  · have : (0 : Int32).toInt = 0 := by decide
    exact ok_some trivial
  · refine ok_bi (sX12_areUnlike σ x1 x2 x3 x4 hI (by omega) (by omega) (by omega) (by omega) (by omega) (by omega) (by omega) (by omega)) (fun r1 hr2 => ?_)
    obtain ⟨p3, p4⟩ := hr2
    have p3 : 0 ≤ r1.toInt := p3
    have p4 : r1.toInt ≤ 1 := p4
    have : (0 : Int32).toInt = 0 := by decide
    refine ok_eq (fun h5 => ?_) (fun h5 => ?_)
    · exact ok_some trivial
    · have : (2 : Int32).toInt = 2 := by decide
      refine ok_dz (by omega) ?_
      have : ((x4 / 2) : Int32).toInt = (x4 : Int32).toInt / 2 := i32_div (by omega) (by omega) (by omega)
      refine ok_bi (hqX12_wordsBelow σ x1 x2 x3 (x4 / 2) hI (by omega) (by omega) (by omega) (by omega) (by omega) (by omega) (by omega) (by omega) (by omega) (by omega) (by omega)) (fun r4 hr6 => ?_)
      refine ok_dz (by omega) ?_
      refine ok_dz (by omega) ?_
      have : ((x3 + (x4 / 2)) : Int32).toInt = (x3 : Int32).toInt + ((x4 / 2) : Int32).toInt := i32_add (by omega) (by omega)
      refine ok_bi (hqX12_wordsBelow σ x1 x2 (x3 + (x4 / 2)) (x4 / 2) hI (by omega) (by omega) (by omega) (by omega) (by omega) (by omega) (by omega) (by omega) (by omega) (by omega) (by omega)) (fun r8 hr7 => ?_)
      have := i32_rng r4
      have := i32_rng (2 + r4)
      have := i32_rng r8
      have := i32_rng ((2 + r4) + r8)
      exact ok_some trivial

theorem sGX12_wordsBelow {g : Nat} : ∀ d : Nat, (∀ (r : Int) (σ : S2) (a1 : Int32) (a2 : Int32) (a3 : Int32) (a4 : Int32), r < (d : Int) → IvM g σ → 0 ≤ a1.toInt → a1.toInt ≤ 11 → 0 ≤ a2.toInt → a2.toInt ≤ 11 → 0 ≤ a3.toInt → a3.toInt ≤ 7 → 1 ≤ a4.toInt → a4.toInt ≤ 8 → a3.toInt + a4.toInt ≤ 8 → 0 ≤ r → (a4.toInt = 1 ∨ a4.toInt = 2 ∧ 1 ≤ r ∨ a4.toInt = 4 ∧ 2 ≤ r ∨ a4.toInt = 8 ∧ 3 ≤ r) → Ok (fun z => True) (GX12_wordsBelow d 0 σ a1 a2 a3 a4)) := by
  intro d
  induction d with
  | zero => exact (fun r σ a1 a2 a3 a4 hd hI p0 p1 p2 p3 p4 p5 p6 p7 p8 p9 p10 => by exfalso; omega)
  | succ d ih =>
    exact (fun r σ a1 a2 a3 a4 hd hI p0 p1 p2 p3 p4 p5 p6 p7 p8 p9 p10 => sX12_wordsBelow_0  r (GX12_wordsBelow d 0) (fun σ a1 a2 a3 a4 hI p0 p1 p2 p3 p4 p5 p6 p7 p8 p9 p10 => ih (r - 1) σ a1 a2 a3 a4 (by omega) hI p0 p1 p2 p3 p4 p5 p6 p7 p8 p9 p10) σ a1 a2 a3 a4 hI p0 p1 p2 p3 p4 p5 p6 p7 p8 p9 p10)
theorem sX12_wordsBelow {g : Nat}  (σ : S2) (a1 : Int32) (a2 : Int32) (a3 : Int32) (a4 : Int32) (hI : IvM g σ) (p9000 : 0 ≤ a1.toInt) (p9001 : a1.toInt ≤ 11) (p9002 : 0 ≤ a2.toInt) (p9003 : a2.toInt ≤ 11) (p9004 : 0 ≤ a3.toInt) (p9005 : a3.toInt ≤ 7) (p9006 : 1 ≤ a4.toInt) (p9007 : a4.toInt ≤ 8) (p9008 : a3.toInt + a4.toInt ≤ 8) (p9009 : a4.toInt = 8) : Ok (fun z => True) (fX12_wordsBelow σ a1 a2 a3 a4) := by
  exact (sGX12_wordsBelow 24) 23  σ a1 a2 a3 a4 (by decide) hI p9000 p9001 p9002 p9003 p9004 p9005 p9006 p9007 p9008 (by omega) (by omega)

theorem sX12_trees_80 {g : Nat} (k54 : S2 → Int32 → Int32 → Int32 → Int32 → Option Int32) (σ : S2) (x1 : Int32) (x2 : Int32) (x5 : Int32) (s0 : Int32) (s1 : Int32) (hI : IvM g σ) (p9000 : 0 ≤ x1.toInt) (p9001 : x1.toInt ≤ 11) (p9002 : 0 ≤ x2.toInt) (p9003 : x2.toInt ≤ 11) (p9004 : 0 ≤ x5.toInt) (p9005 : x5.toInt ≤ 7) (p9006 : 0 ≤ s0.toInt) (p9007 : s0.toInt ≤ 1) (hk54 : ∀ (y0 : S2) (y1 : Int32) (y2 : Int32) (y3 : Int32) (y4 : Int32), IvM g y0 → 0 ≤ y1.toInt → y1.toInt ≤ 11 → 0 ≤ y2.toInt → y2.toInt ≤ 11 → 0 ≤ y4.toInt → y4.toInt ≤ 8 → x5.toInt + 1 ≤ y4.toInt → Ok (fun z => True) (k54 y0 y1 y2 y3 y4)) : Ok (fun z => True) (fX12_trees_80 k54 σ x1 x2 x5 s0 s1) := by
  have hFU : ((FU : Nat) : Int) = 100000 := rfl
  unfold fX12_trees_80
  have := i32_rng s1
  have := i32_rng (s1 + s0)
  refine ok_nmI (fun v1 hv1 he1 => ?_)
  have : (1 : Int32).toInt = 1 := by decide
  have : ((x5 + 1) : Int32).toInt = (x5 : Int32).toInt + (1 : Int32).toInt := i32_add (by omega) (by omega)
  refine ok_nmI (fun v2 hv2 he2 => ?_)
  have := i32_rng v1
  exact hk54 σ x1 x2 v1 v2 hI (by omega) (by omega) (by omega) (by omega) (by omega) (by omega) (by omega)

theorem sX12_trees_54 {g : Nat} : ∀ (n : Nat) (σ : S2) (x1 : Int32) (x2 : Int32) (x4 : Int32) (x5 : Int32), IvM g σ → 0 ≤ x1.toInt → x1.toInt ≤ 11 → 0 ≤ x2.toInt → x2.toInt ≤ 11 → 0 ≤ x5.toInt → x5.toInt ≤ 8 → 8 - x5.toInt < (n : Int) → Ok (fun z => True) (fX12_trees_54 n σ x1 x2 x4 x5) := by
  have hFU : ((FU : Nat) : Int) = 100000 := rfl
  intro n
  induction n with
  | zero => intro σ x1 x2 x4 x5 hI p9000 p9001 p9002 p9003 p9004 p9005 hm; exfalso; omega
  | succ n ih =>
    intro σ x1 x2 x4 x5 hI p9000 p9001 p9002 p9003 p9004 p9005 hm
    unfold fX12_trees_54
    have : (8 : Int32).toInt = 8 := by decide
    refine ok_le (fun h1 => ?_) (fun h1 => ?_)
    · have := i32_rng x4
      exact ok_some trivial
    · have : (1 : Int32).toInt = 1 := by decide
      refine ok_bi (sX12_areUnlike σ x1 x2 x5 1 hI (by omega) (by omega) (by omega) (by omega) (by omega) (by omega) (by omega) (by omega)) (fun r3 hr2 => ?_)
      obtain ⟨p3, p4⟩ := hr2
      have p3 : 0 ≤ r3.toInt := p3
      have p4 : r3.toInt ≤ 1 := p4
      have : (0 : Int32).toInt = 0 := by decide
      refine ok_eq (fun h5 => ?_) (fun h5 => ?_)
      · have := i32_rng x4
        exact sX12_trees_80 (fX12_trees_54 n) σ x1 x2 x5 0 x4 hI (by omega) (by omega) (by omega) (by omega) (by omega) (by omega) (by omega) (by omega) (fun y0 y1 y2 y3 y4 q0 q1 q2 q3 q4 q5 q6 q7 => ih y0 y1 y2 y3 y4 q0 q1 q2 q3 q4 q5 q6 (by omega))
      · have := i32_rng x4
        exact sX12_trees_80 (fX12_trees_54 n) σ x1 x2 x5 1 x4 hI (by omega) (by omega) (by omega) (by omega) (by omega) (by omega) (by omega) (by omega) (fun y0 y1 y2 y3 y4 q0 q1 q2 q3 q4 q5 q6 q7 => ih y0 y1 y2 y3 y4 q0 q1 q2 q3 q4 q5 q6 (by omega))

theorem sX12_trees_0 {g : Nat} (σ : S2) (x1 : Int32) (x2 : Int32) (x3 : Int32) (hI : IvM g σ)   : Ok (fun z => True) (fX12_trees_0 σ x1 x2 x3) := by
  have hFU : ((FU : Nat) : Int) = 100000 := rfl
  unfold fX12_trees_0
  have := i32_rng x1
  refine ok_bi (sX12_isKeeper σ x1 hI) (fun r5 hr1 => ?_)
  obtain ⟨p2, p3, p4⟩ := hr1
  have p2 : 0 ≤ r5.toInt := p2
  have p3 : r5.toInt ≤ 1 := p3
  have p4 : r5.toInt ≠ 0 → 0 ≤ x1.toInt ∧ x1.toInt < (σ.1 0 3).toInt := p4
  have : 0 ≤ (σ.1 0 3).toInt ∧ (σ.1 0 3).toInt ≤ 12 := hI.1 0 3
  have : (0 : Int32).toInt = 0 := by decide
  refine ok_eq (fun h5 => ?_) (fun h5 => ?_)
  · have : ((-1) : Int32).toInt = (-1) := by decide
    exact ok_some trivial
  · have := i32_rng x2
    refine ok_bi (sX12_isKeeper σ x2 hI) (fun r7 hr6 => ?_)
    obtain ⟨p7, p8, p9⟩ := hr6
    have p7 : 0 ≤ r7.toInt := p7
    have p8 : r7.toInt ≤ 1 := p8
    have p9 : r7.toInt ≠ 0 → 0 ≤ x2.toInt ∧ x2.toInt < (σ.1 0 3).toInt := p9
    refine ok_eq (fun h10 => ?_) (fun h10 => ?_)
    · have : ((-1) : Int32).toInt = (-1) := by decide
      exact ok_some trivial
    · refine ok_eq (fun h11 => ?_) (fun h11 => ?_)
      · have : ((-1) : Int32).toInt = (-1) := by decide
        exact ok_some trivial
      · have := i32_rng x3
        have : (1 : Int32).toInt = 1 := by decide
        refine ok_bi (sX12_in σ x3 0 1 hI (by omega) (by omega) (by omega) (by omega)) (fun r9 hr12 => ?_)
        obtain ⟨p13, p14, p15⟩ := hr12
        have p13 : 0 ≤ r9.toInt := p13
        have p14 : r9.toInt ≤ 1 := p14
        have p15 : r9.toInt ≠ 0 → (0 : Int32).toInt ≤ x3.toInt ∧ x3.toInt ≤ (1 : Int32).toInt := p15
        refine ok_eq (fun h16 => ?_) (fun h16 => ?_)
        · have : ((-1) : Int32).toInt = (-1) := by decide
          exact ok_some trivial
        · refine ok_eq (fun h17 => ?_) (fun h17 => ?_)
          · have : (8 : Int32).toInt = 8 := by decide
            refine ok_bi (sX12_wordsBelow σ x1 x2 0 8 hI (by omega) (by omega) (by omega) (by omega) (by omega) (by omega) (by omega) (by omega) (by omega) (by omega)) (fun r11 hr18 => ?_)
            have := i32_rng r11
            have := i32_rng (1 + r11)
            exact ok_some trivial
          · exact sX12_trees_54 FU σ x1 x2 0 0 hI (by omega) (by omega) (by omega) (by omega) (by omega) (by omega) (by omega)

theorem sX12_trees {g : Nat} (σ : S2) (a1 : Int32) (a2 : Int32) (a3 : Int32) (hI : IvM g σ)   : Ok (fun z => True) (fX12_trees σ a1 a2 a3) := by
  unfold fX12_trees
  exact sX12_trees_0 σ a1 a2 a3 hI

theorem sX12_noon_46 {g : Nat} : ∀ (n : Nat) (σ : S2) (x2 : Int32) (x3 : Int32) (x4 : Int32) (x5 : Int32), IvM g σ → 0 ≤ x2.toInt → x2.toInt ≤ 9999 → 0 ≤ x3.toInt → x3.toInt ≤ 9999 → 0 ≤ x4.toInt → x4.toInt ≤ 12 → 1 ≤ x5.toInt → x5.toInt ≤ 13 → 13 - x5.toInt < (n : Int) → Ok (fun z => (-2) ≤ z.toInt ∧ z.toInt ≤ 12) (fX12_noon_46 n σ x2 x3 x4 x5) := by
  have hFU : ((FU : Nat) : Int) = 100000 := rfl
  intro n
  induction n with
  | zero => intro σ x2 x3 x4 x5 hI p9000 p9001 p9002 p9003 p9004 p9005 p9006 p9007 hm; exfalso; omega
  | succ n ih =>
    intro σ x2 x3 x4 x5 hI p9000 p9001 p9002 p9003 p9004 p9005 p9006 p9007 hm
    unfold fX12_noon_46
    refine ok_lt (fun h1 => ?_) (fun h1 => ?_)
    · have : ((-2) : Int32).toInt = (-2) := by decide
      exact ok_some ⟨by show (-2) ≤ ((-2) : Int32).toInt; omega, by show ((-2) : Int32).toInt ≤ 12; omega⟩
    · refine ok_dz (by omega) ?_
      have : ((x2 + x5) : Int32).toInt = (x2 : Int32).toInt + (x5 : Int32).toInt := i32_add (by omega) (by omega)
      have : (1 : Int32).toInt = 1 := by decide
      have : (((x2 + x5) - 1) : Int32).toInt = ((x2 + x5) : Int32).toInt - (1 : Int32).toInt := i32_sub (by omega) (by omega)
      have : ((((x2 + x5) - 1) / x5) : Int32).toInt = (((x2 + x5) - 1) : Int32).toInt / (x5 : Int32).toInt := i32_div rfl (by omega) (by omega)
      have := Int.ediv_nonneg (a := (((x2 + x5) - 1) : Int32).toInt) (b := (x5 : Int32).toInt) (by omega) (by omega)
      have := Int.ediv_le_self (a := (((x2 + x5) - 1) : Int32).toInt) (x5 : Int32).toInt (by omega)
      refine ok_lt (fun h2 => ?_) (fun h2 => ?_)
      · have : ((x5 + 1) : Int32).toInt = (x5 : Int32).toInt + (1 : Int32).toInt := i32_add (by omega) (by omega)
        refine ok_nmI (fun v2 hv2 he3 => ?_)
        exact ih σ x2 x3 x4 v2 hI (by omega) (by omega) (by omega) (by omega) (by omega) (by omega) (by omega) (by omega) (by omega)
      · exact ok_some ⟨by show (-2) ≤ x5.toInt; omega, by show x5.toInt ≤ 12; omega⟩

theorem sX12_noon_0 {g : Nat} (σ : S2) (x1 : Int32) (x2 : Int32) (x3 : Int32) (hI : IvM g σ)   : Ok (fun z => (-2) ≤ z.toInt ∧ z.toInt ≤ 12) (fX12_noon_0 σ x1 x2 x3) := by
  have hFU : ((FU : Nat) : Int) = 100000 := rfl
  unfold fX12_noon_0
  have := i32_rng x1
  refine ok_bi (sX12_isTable σ x1 hI) (fun r3 hr1 => ?_)
  obtain ⟨p2, p3, p4⟩ := hr1
  have p2 : 0 ≤ r3.toInt := p2
  have p3 : r3.toInt ≤ 1 := p3
  have p4 : r3.toInt ≠ 0 → 0 ≤ x1.toInt ∧ x1.toInt < (σ.1 0 9).toInt := p4
  have : 0 ≤ (σ.1 0 9).toInt ∧ (σ.1 0 9).toInt ≤ 10 := hI.1 0 9
  have : (0 : Int32).toInt = 0 := by decide
  refine ok_eq (fun h5 => ?_) (fun h5 => ?_)
  · have : ((-1) : Int32).toInt = (-1) := by decide
    exact ok_some ⟨by show (-2) ≤ ((-1) : Int32).toInt; omega, by show ((-1) : Int32).toInt ≤ 12; omega⟩
  · have := i32_rng x2
    have : (9999 : Int32).toInt = 9999 := by decide
    refine ok_bi (sX12_in σ x2 0 9999 hI (by omega) (by omega) (by omega) (by omega)) (fun r5 hr6 => ?_)
    obtain ⟨p7, p8, p9⟩ := hr6
    have p7 : 0 ≤ r5.toInt := p7
    have p8 : r5.toInt ≤ 1 := p8
    have p9 : r5.toInt ≠ 0 → (0 : Int32).toInt ≤ x2.toInt ∧ x2.toInt ≤ (9999 : Int32).toInt := p9
    refine ok_eq (fun h10 => ?_) (fun h10 => ?_)
    · have : ((-1) : Int32).toInt = (-1) := by decide
      exact ok_some ⟨by show (-2) ≤ ((-1) : Int32).toInt; omega, by show ((-1) : Int32).toInt ≤ 12; omega⟩
    · have := i32_rng x3
      refine ok_bi (sX12_in σ x3 0 9999 hI (by omega) (by omega) (by omega) (by omega)) (fun r7 hr11 => ?_)
      obtain ⟨p12, p13, p14⟩ := hr11
      have p12 : 0 ≤ r7.toInt := p12
      have p13 : r7.toInt ≤ 1 := p13
      have p14 : r7.toInt ≠ 0 → (0 : Int32).toInt ≤ x3.toInt ∧ x3.toInt ≤ (9999 : Int32).toInt := p14
      refine ok_eq (fun h15 => ?_) (fun h15 => ?_)
      · have : ((-1) : Int32).toInt = (-1) := by decide
        exact ok_some ⟨by show (-2) ≤ ((-1) : Int32).toInt; omega, by show ((-1) : Int32).toInt ≤ 12; omega⟩
      · refine ok_ck (by omega) (by omega) ?_
        have : 0 ≤ (σ.1 8 (Int32.toNatClampNeg x1)).toInt ∧ (σ.1 8 (Int32.toNatClampNeg x1)).toInt ≤ 4095 := hI.1 8 (Int32.toNatClampNeg x1)
        refine ok_nmI (fun v9 hv9 he16 => ?_)
        refine ok_bi (sX12_ones σ v9 hI (by omega) (by omega)) (fun r10 hr17 => ?_)
        obtain ⟨p18, p19⟩ := hr17
        have p18 : 0 ≤ r10.toInt := p18
        have p19 : r10.toInt ≤ 12 := p19
        have : (1 : Int32).toInt = 1 := by decide
        exact sX12_noon_46 FU σ x2 x3 r10 1 hI (by omega) (by omega) (by omega) (by omega) (by omega) (by omega) (by omega) (by omega) (by omega)

theorem sX12_noon {g : Nat} (σ : S2) (a1 : Int32) (a2 : Int32) (a3 : Int32) (hI : IvM g σ)   : Ok (fun z => (-2) ≤ z.toInt ∧ z.toInt ≤ 12) (fX12_noon σ a1 a2 a3) := by
  unfold fX12_noon
  exact sX12_noon_0 σ a1 a2 a3 hI

theorem sX12_lies_75 {g : Nat} (σ : S2) (x1 : Int32) (x4 : Int32) (s0 : Int32) (hI : IvM g σ) (p9000 : 0 ≤ x1.toInt) (p9001 : x1.toInt ≤ 11) (p9002 : 0 ≤ x4.toInt) (p9003 : x4.toInt ≤ 1) (p9004 : 1 ≤ s0.toInt)  : Ok (fun z => True) (fX12_lies_75 σ x1 x4 s0) := by
  have hFU : ((FU : Nat) : Int) = 100000 := rfl
  unfold fX12_lies_75
  have : (0 : Int32).toInt = 0 := by decide
  refine ok_eq (fun h1 => ?_) (fun h1 => ?_)
  · have := i32_rng s0
    exact ok_some trivial
  · refine ok_ck (by omega) (by omega) ?_
    have : 0 ≤ (σ.1 4 (Int32.toNatClampNeg x1)).toInt ∧ (σ.1 4 (Int32.toNatClampNeg x1)).toInt ≤ 8 := hI.1 4 (Int32.toNatClampNeg x1)
    refine ok_nmI (fun v1 hv1 he2 => ?_)
    have : (4 : Int32).toInt = 4 := by decide
    have := i32_rng s0
    have : ((v1 - s0) : Int32).toInt = (v1 : Int32).toInt - (s0 : Int32).toInt := i32_sub (by omega) (by omega)
    have := i32_rng (4 * (v1 - s0))
    exact ok_some trivial

theorem sX12_lies_0 {g : Nat} (σ : S2) (x1 : Int32) (x2 : Int32) (x3 : Int32) (x4 : Int32) (hI : IvM g σ)   : Ok (fun z => True) (fX12_lies_0 σ x1 x2 x3 x4) := by
  have hFU : ((FU : Nat) : Int) = 100000 := rfl
  unfold fX12_lies_0
  have := i32_rng x1
  refine ok_bi (sX12_isKeeper σ x1 hI) (fun r2 hr1 => ?_)
  obtain ⟨p2, p3, p4⟩ := hr1
  have p2 : 0 ≤ r2.toInt := p2
  have p3 : r2.toInt ≤ 1 := p3
  have p4 : r2.toInt ≠ 0 → 0 ≤ x1.toInt ∧ x1.toInt < (σ.1 0 3).toInt := p4
  have : 0 ≤ (σ.1 0 3).toInt ∧ (σ.1 0 3).toInt ≤ 12 := hI.1 0 3
  have : (0 : Int32).toInt = 0 := by decide
  refine ok_eq (fun h5 => ?_) (fun h5 => ?_)
  · have : ((-1) : Int32).toInt = (-1) := by decide
    exact ok_some trivial
  · have := i32_rng x2
    have : (99 : Int32).toInt = 99 := by decide
    refine ok_bi (sX12_in σ x2 0 99 hI (by omega) (by omega) (by omega) (by omega)) (fun r4 hr6 => ?_)
    obtain ⟨p7, p8, p9⟩ := hr6
    have p7 : 0 ≤ r4.toInt := p7
    have p8 : r4.toInt ≤ 1 := p8
    have p9 : r4.toInt ≠ 0 → (0 : Int32).toInt ≤ x2.toInt ∧ x2.toInt ≤ (99 : Int32).toInt := p9
    refine ok_eq (fun h10 => ?_) (fun h10 => ?_)
    · have : ((-1) : Int32).toInt = (-1) := by decide
      exact ok_some trivial
    · have := i32_rng x3
      have : (1 : Int32).toInt = 1 := by decide
      refine ok_bi (sX12_in σ x3 1 99 hI (by omega) (by omega) (by omega) (by omega)) (fun r6 hr11 => ?_)
      obtain ⟨p12, p13, p14⟩ := hr11
      have p12 : 0 ≤ r6.toInt := p12
      have p13 : r6.toInt ≤ 1 := p13
      have p14 : r6.toInt ≠ 0 → (1 : Int32).toInt ≤ x3.toInt ∧ x3.toInt ≤ (99 : Int32).toInt := p14
      refine ok_eq (fun h15 => ?_) (fun h15 => ?_)
      · have : ((-1) : Int32).toInt = (-1) := by decide
        exact ok_some trivial
      · refine ok_lt (fun h16 => ?_) (fun h16 => ?_)
        · have : ((-1) : Int32).toInt = (-1) := by decide
          exact ok_some trivial
        · have := i32_rng x4
          refine ok_bi (sX12_in σ x4 0 1 hI (by omega) (by omega) (by omega) (by omega)) (fun r8 hr17 => ?_)
          obtain ⟨p18, p19, p20⟩ := hr17
          have p18 : 0 ≤ r8.toInt := p18
          have p19 : r8.toInt ≤ 1 := p19
          have p20 : r8.toInt ≠ 0 → (0 : Int32).toInt ≤ x4.toInt ∧ x4.toInt ≤ (1 : Int32).toInt := p20
          refine ok_eq (fun h21 => ?_) (fun h21 => ?_)
          · have : ((-1) : Int32).toInt = (-1) := by decide
            exact ok_some trivial
          · refine ok_ck (by omega) (by omega) ?_
            have : 0 ≤ (σ.1 4 (Int32.toNatClampNeg x1)).toInt ∧ (σ.1 4 (Int32.toNatClampNeg x1)).toInt ≤ 8 := hI.1 4 (Int32.toNatClampNeg x1)
            refine ok_nmI (fun v10 hv10 he22 => ?_)
            refine ok_dz (by omega) ?_
            have : ((x3 - x2) : Int32).toInt = (x3 : Int32).toInt - (x2 : Int32).toInt := i32_sub (by omega) (by omega)
            have : -792 ≤ ((v10 * (x3 - x2)) : Int32).toInt ∧ ((v10 * (x3 - x2)) : Int32).toInt ≤ 792 := i32_mulS 8 99 (by omega) (by omega) (by omega) (by omega) (by omega)
            have : (((v10 * (x3 - x2)) + x3) : Int32).toInt = ((v10 * (x3 - x2)) : Int32).toInt + (x3 : Int32).toInt := i32_add (by omega) (by omega)
            have : ((((v10 * (x3 - x2)) + x3) - 1) : Int32).toInt = (((v10 * (x3 - x2)) + x3) : Int32).toInt - (1 : Int32).toInt := i32_sub (by omega) (by omega)
            have := i32_rng ((((v10 * (x3 - x2)) + x3) - 1) / x3)
            refine ok_nmI (fun v12 hv12 he23 => ?_)
            have := i32_rng v12
            refine ok_le (fun h24 => ?_) (fun h24 => ?_)
            · exact sX12_lies_75 σ x1 x4 v12 hI (by omega) (by omega) (by omega) (by omega) (by omega)
            · exact sX12_lies_75 σ x1 x4 1 hI (by omega) (by omega) (by omega) (by omega) (by omega)

theorem sX12_lies {g : Nat} (σ : S2) (a1 : Int32) (a2 : Int32) (a3 : Int32) (a4 : Int32) (hI : IvM g σ)   : Ok (fun z => True) (fX12_lies σ a1 a2 a3 a4) := by
  unfold fX12_lies
  exact sX12_lies_0 σ a1 a2 a3 a4 hI

theorem sX12_isComing_2 {g : Nat} : ∀ (n : Nat) (σ : S2) (x1 : Int32) (x2 : Int32), IvM g σ → 0 ≤ x1.toInt → x1.toInt ≤ 11 → 0 ≤ x2.toInt → x2.toInt ≤ 5 → 5 - x2.toInt < (n : Int) → Ok (fun z => 0 ≤ z.toInt ∧ z.toInt ≤ 1) (fX12_isComing_2 n σ x1 x2) := by
  have hFU : ((FU : Nat) : Int) = 100000 := rfl
  intro n
  induction n with
  | zero => intro σ x1 x2 hI p9000 p9001 p9002 p9003 hm; exfalso; omega
  | succ n ih =>
    intro σ x1 x2 hI p9000 p9001 p9002 p9003 hm
    unfold fX12_isComing_2
    have : 0 ≤ (σ.1 0 30).toInt ∧ (σ.1 0 30).toInt ≤ 5 := hI.1 0 30
    refine ok_le (fun h1 => ?_) (fun h1 => ?_)
    · have : (0 : Int32).toInt = 0 := by decide
      exact ok_some ⟨by show 0 ≤ (0 : Int32).toInt; omega, by show (0 : Int32).toInt ≤ 1; omega⟩
    · refine ok_ck (by omega) (by omega) ?_
      have : 0 ≤ (σ.1 26 (Int32.toNatClampNeg x2)).toInt ∧ (σ.1 26 (Int32.toNatClampNeg x2)).toInt ≤ 11 := hI.1 26 (Int32.toNatClampNeg x2); have : (σ.1 26 (Int32.toNatClampNeg x2)).toInt < (σ.1 0 3).toInt ∨ (σ.1 26 (Int32.toNatClampNeg x2)).toInt = 0 := hI.2.2.2.2.1 (Int32.toNatClampNeg x2); have : (σ.1 0 9).toInt = 0 ∨ 1 ≤ (σ.1 0 3).toInt := hI.2.2.2.2.2
      refine ok_nmI (fun v1 hv1 he2 => ?_)
      refine ok_eq (fun h3 => ?_) (fun h3 => ?_)
      · have : (1 : Int32).toInt = 1 := by decide
        exact ok_some ⟨by show 0 ≤ (1 : Int32).toInt; omega, by show (1 : Int32).toInt ≤ 1; omega⟩
      · have : (1 : Int32).toInt = 1 := by decide
        have : ((x2 + 1) : Int32).toInt = (x2 : Int32).toInt + (1 : Int32).toInt := i32_add (by omega) (by omega)
        refine ok_nmI (fun v2 hv2 he4 => ?_)
        exact ih σ x1 v2 hI (by omega) (by omega) (by omega) (by omega) (by omega)

theorem sX12_isComing_0 {g : Nat} (σ : S2) (x1 : Int32) (hI : IvM g σ) (p9000 : 0 ≤ x1.toInt) (p9001 : x1.toInt ≤ 11)  : Ok (fun z => 0 ≤ z.toInt ∧ z.toInt ≤ 1) (fX12_isComing_0 σ x1) := by
  have hFU : ((FU : Nat) : Int) = 100000 := rfl
  unfold fX12_isComing_0
  have : (0 : Int32).toInt = 0 := by decide
  exact sX12_isComing_2 FU σ x1 0 hI (by omega) (by omega) (by omega) (by omega) (by omega)

theorem sX12_isComing {g : Nat} (σ : S2) (a1 : Int32) (hI : IvM g σ) (p9000 : 0 ≤ a1.toInt) (p9001 : a1.toInt ≤ 11)  : Ok (fun z => 0 ≤ z.toInt ∧ z.toInt ≤ 1) (fX12_isComing σ a1) := by
  unfold fX12_isComing
  exact sX12_isComing_0 σ a1 hI (by assumption) (by assumption)

theorem sX12_comes_0 {g : Nat} (σ : S2) (x1 : Int32) (hI : IvM g σ)   : Ok (fun z => IvM g z.2 ∧ (-3) ≤ z.1.toInt ∧ z.1.toInt ≤ 5) (fX12_comes_0 σ x1) := by
  have hFU : ((FU : Nat) : Int) = 100000 := rfl
  unfold fX12_comes_0
  have := i32_rng x1
  refine ok_bi (sX12_isKeeper σ x1 hI) (fun r1 hr1 => ?_)
  obtain ⟨p2, p3, p4⟩ := hr1
  have p2 : 0 ≤ r1.toInt := p2
  have p3 : r1.toInt ≤ 1 := p3
  have p4 : r1.toInt ≠ 0 → 0 ≤ x1.toInt ∧ x1.toInt < (σ.1 0 3).toInt := p4
  have : 0 ≤ (σ.1 0 3).toInt ∧ (σ.1 0 3).toInt ≤ 12 := hI.1 0 3
  have : (0 : Int32).toInt = 0 := by decide
  refine ok_eq (fun h5 => ?_) (fun h5 => ?_)
  · have : ((-1) : Int32).toInt = (-1) := by decide
    exact ok_some ⟨hI, by show (-3) ≤ ((-1) : Int32).toInt; omega, by show ((-1) : Int32).toInt ≤ 5; omega⟩
  · refine ok_bi (sX12_isComing σ x1 hI (by omega) (by omega)) (fun r3 hr6 => ?_)
    obtain ⟨p7, p8⟩ := hr6
    have p7 : 0 ≤ r3.toInt := p7
    have p8 : r3.toInt ≤ 1 := p8
    refine ok_eq (fun h9 => ?_) (fun h9 => ?_)
    · have : 0 ≤ (σ.1 0 30).toInt ∧ (σ.1 0 30).toInt ≤ 5 := hI.1 0 30
      have : (5 : Int32).toInt = 5 := by decide
      refine ok_eq (fun h10 => ?_) (fun h10 => ?_)
      · have : ((-3) : Int32).toInt = (-3) := by decide
        exact ok_some ⟨hI, by show (-3) ≤ ((-3) : Int32).toInt; omega, by show ((-3) : Int32).toInt ≤ 5; omega⟩
      · refine ok_ck (by omega) (by omega) ?_
        refine ok_nm (fun σ5 hs11 => ?_)
        have hI12 : IvM g σ5 := by rw [hs11]; exact IvM.w26 hI (by omega) (show 0 ≤ (x1 : Int32).toInt by omega) (show (x1 : Int32).toInt ≤ 11 by omega)
        have : (σ5.1 0 30).toInt = (σ.1 0 30).toInt := by rw [hs11]; rfl
        have : 0 ≤ (σ5.1 0 30).toInt ∧ (σ5.1 0 30).toInt ≤ 5 := hI12.1 0 30
        have : (1 : Int32).toInt = 1 := by decide
        have : (((σ5.1 0 30) + 1) : Int32).toInt = ((σ5.1 0 30) : Int32).toInt + (1 : Int32).toInt := i32_add (by omega) (by omega)
        refine ok_nm (fun σ6 hs13 => ?_)
        have hI14 : IvM g σ6 := by rw [hs13]; exact IvM.wI hI12 rfl (show 0 ≤ (((σ5.1 0 30) + 1) : Int32).toInt by omega) (show (((σ5.1 0 30) + 1) : Int32).toInt ≤ 5 by omega)
        have : (σ6.1 0 30).toInt = (((σ5.1 0 30) + 1) : Int32).toInt := by rw [hs13]; rfl
        have : 0 ≤ (σ6.1 0 30).toInt ∧ (σ6.1 0 30).toInt ≤ 5 := hI14.1 0 30
        exact ok_some ⟨hI14, by show (-3) ≤ (σ6.1 0 30).toInt; omega, by show (σ6.1 0 30).toInt ≤ 5; omega⟩
    · have : ((-1) : Int32).toInt = (-1) := by decide
      exact ok_some ⟨hI, by show (-3) ≤ ((-1) : Int32).toInt; omega, by show ((-1) : Int32).toInt ≤ 5; omega⟩

theorem sX12_comes {g : Nat} (σ : S2) (a1 : Int32) (hI : IvM g σ)   : Ok (fun z => IvM g z.2 ∧ (-3) ≤ z.1.toInt ∧ z.1.toInt ≤ 5) (fX12_comes σ a1) := by
  unfold fX12_comes
  exact sX12_comes_0 σ a1 hI

theorem sX12_tries_162 {g : Nat} (t0 : Int) (k71 : S2 → Int32 → Int32 → Option (Unit × S2)) (σ : S2) (x1 : Int32) (x4 : Int32) (s0 : Int32) (s1 : Int32) (hI : IvM g σ) (p9000 : 0 ≤ x1.toInt) (p9001 : x1.toInt ≤ 9) (p9002 : 0 ≤ x4.toInt) (p9003 : x4.toInt ≤ 11) (p9004 : 0 ≤ s0.toInt) (p9005 : s0.toInt ≤ 5) (p9006 : 120 ≤ s1.toInt) (p9007 : s1.toInt ≤ 131) (p9008 : (σ.1 0 9).toInt = t0) (p9009 : g ≠ 0) (p9010 : x1.toInt < (σ.1 0 9).toInt) (p9011 : SxM σ 10) (p9012 : PcM σ 10 (x4 + 1)) (p9013 : s1.toInt = 120 + x4.toInt) (hk71 : ∀ (y0 : S2) (y1 : Int32) (y2 : Int32), IvM g y0 → 0 ≤ y1.toInt → y1.toInt ≤ 9 → 0 ≤ y2.toInt → y2.toInt ≤ 12 → (y0.1 0 9).toInt = t0 → g ≠ 0 → y1.toInt < (y0.1 0 9).toInt → SxM y0 10 → PcM y0 10 y2 → x4.toInt + 1 ≤ y2.toInt → Ok (fun z => IvM g z.2 ∧ (z.2.1 0 9).toInt = t0 ∧ FaM z.2 (Int32.toNatClampNeg 10)) (k71 y0 y1 y2)) : Ok (fun z => IvM g z.2 ∧ (z.2.1 0 9).toInt = t0 ∧ FaM z.2 (Int32.toNatClampNeg 10)) (fX12_tries_162 k71 σ x1 x4 s0 s1) := by
  have hFU : ((FU : Nat) : Int) = 100000 := rfl
  unfold fX12_tries_162
  refine ok_ck (by omega) (by omega) ?_
  refine ok_nm (fun σ1 hs1 => ?_)
  have hI2 : IvM g σ1 := by rw [hs1]; exact IvM.wI hI rfl (show 0 ≤ (s0 : Int32).toInt by omega) (show (s0 : Int32).toInt ≤ 5 by omega)
  have : SxM σ1 10 := by rw [hs1]; exact (show SxM σ 10 by assumption)
  have : PcM σ1 10 (x4 + 1) := by rw [hs1]; exact (show PcM σ 10 (x4 + 1) by assumption)
  have : (σ1.1 0 9).toInt = (σ.1 0 9).toInt := by rw [hs1]; rfl
  have : (σ1.1 0 3).toInt = (σ.1 0 3).toInt := by rw [hs1]; rfl
  have : (1 : Int32).toInt = 1 := by decide
  have : ((x4 + 1) : Int32).toInt = (x4 : Int32).toInt + (1 : Int32).toInt := i32_add (by omega) (by omega)
  refine ok_nmI (fun v2 hv2 he3 => ?_)
  have : PcM σ1 10 v2 := by rw [hv2]; assumption
  have : 0 ≤ (σ1.1 0 9).toInt ∧ (σ1.1 0 9).toInt ≤ 10 := hI2.1 0 9
  exact hk71 σ1 x1 v2 hI2 (by omega) (by omega) (by omega) (by omega) (by omega) (by omega) (by omega) (by first | assumption | exact KeM.rf _) (by first | assumption | exact KeM.rf _) (by omega)

theorem sX12_tries_120 {g : Nat} (t0 : Int) (k71 : S2 → Int32 → Int32 → Option (Unit × S2)) (σ : S2) (x1 : Int32) (x4 : Int32) (s0 : Int32) (s1 : Int32) (hI : IvM g σ) (p9000 : 0 ≤ x1.toInt) (p9001 : x1.toInt ≤ 9) (p9002 : 0 ≤ x4.toInt) (p9003 : x4.toInt ≤ 11) (p9004 : 0 ≤ s0.toInt) (p9005 : s0.toInt ≤ 16) (p9006 : 120 ≤ s1.toInt) (p9007 : s1.toInt ≤ 131) (p9008 : (σ.1 0 9).toInt = t0) (p9009 : g ≠ 0) (p9010 : x1.toInt < (σ.1 0 9).toInt) (p9011 : SxM σ 10) (p9012 : PcM σ 10 x4) (p9013 : s1.toInt = 120 + x4.toInt) (p9014 : 1 ≤ s0.toInt) (p9015 : x4.toInt < (σ.1 0 3).toInt) (hk71 : ∀ (y0 : S2) (y1 : Int32) (y2 : Int32), IvM g y0 → 0 ≤ y1.toInt → y1.toInt ≤ 9 → 0 ≤ y2.toInt → y2.toInt ≤ 12 → (y0.1 0 9).toInt = t0 → g ≠ 0 → y1.toInt < (y0.1 0 9).toInt → SxM y0 10 → PcM y0 10 y2 → x4.toInt + 1 ≤ y2.toInt → Ok (fun z => IvM g z.2 ∧ (z.2.1 0 9).toInt = t0 ∧ FaM z.2 (Int32.toNatClampNeg 10)) (k71 y0 y1 y2)) : Ok (fun z => IvM g z.2 ∧ (z.2.1 0 9).toInt = t0 ∧ FaM z.2 (Int32.toNatClampNeg 10)) (fX12_tries_120 k71 σ x1 x4 s0 s1) := by
  have hFU : ((FU : Nat) : Int) = 100000 := rfl
  unfold fX12_tries_120
  refine ok_ck (by omega) (by omega) ?_
  refine ok_nm (fun σ3 hs1 => ?_)
  have : 0 ≤ (σ.1 0 9).toInt ∧ (σ.1 0 9).toInt ≤ 10 := hI.1 0 9
  have hI2 : IvM g σ3 := by rw [hs1]; have := i32_nat (i := s1) (by omega); exact IvM.w15 hI (by omega) (by omega) (show 0 ≤ (s0 : Int32).toInt by omega) (show (s0 : Int32).toInt ≤ 16 by omega)
  have : SxM σ3 10 := by rw [hs1]; exact (show SxM σ 10 by assumption)
  have : PcM σ3 10 (x4 + 1) := by rw [hs1]; have := i32_nat (i := x4) (by omega); have := i32_nat (i := s1) (by omega); have : Int32.toNatClampNeg 10 = 10 := rfl; have : (1 : Int32).toInt = 1 := rfl; exact PcM.step (x := x4) (by assumption) (by omega) (by omega) (by omega) (i32_add (by omega) (by omega))
  have : (σ3.1 0 9).toInt = (σ.1 0 9).toInt := by rw [hs1]; rfl
  have : (σ3.1 0 3).toInt = (σ.1 0 3).toInt := by rw [hs1]; rfl
  refine ok_bi (sX12_isIn σ3 x1 x4 hI2 (by omega) (by omega) (by omega) (by omega)) (fun r4 hr3 => ?_)
  obtain ⟨p4, p5, p6⟩ := hr3
  have p4 : 0 ≤ r4.toInt := p4
  have p5 : r4.toInt ≤ 1 := p5
  have p6 : IiM σ3 x1 x4 r4 := p6
  have : (0 : Int32).toInt = 0 := by decide
  refine ok_eq (fun h7 => ?_) (fun h7 => ?_)
  · refine ok_ck (by omega) (by omega) ?_
    have : 0 ≤ (σ3.1 3 (Int32.toNatClampNeg x4)).toInt ∧ (σ3.1 3 (Int32.toNatClampNeg x4)).toInt ≤ 5 := hI2.1 3 (Int32.toNatClampNeg x4)
    refine ok_nmI (fun v6 hv6 he8 => ?_)
    have : (120 : Int32).toInt = 120 := by decide
    have : ((120 + x4) : Int32).toInt = (120 : Int32).toInt + (x4 : Int32).toInt := i32_add (by omega) (by omega)
    have : 0 ≤ (σ3.1 0 9).toInt ∧ (σ3.1 0 9).toInt ≤ 10 := hI2.1 0 9
    exact sX12_tries_162 t0 k71 σ3 x1 x4 v6 (120 + x4) hI2 (by omega) (by omega) (by omega) (by omega) (by omega) (by omega) (by omega) (by omega) (by omega) (by omega) (by omega) (by first | assumption | exact KeM.rf _) (by first | assumption | exact KeM.rf _) (by omega) (fun y0 y1 y2 q0 q1 q2 q3 q4 q5 q6 q7 q8 q9 q10 => hk71 y0 y1 y2 q0 q1 q2 q3 q4 q5 q6 q7 q8 q9 (by omega))
  · have : (12 : Int32).toInt = 12 := by decide
    have : ((12 * x1) : Int32).toInt = 12 * (x1 : Int32).toInt := i32_mulL (by omega) (by omega) (by omega)
    have : (((12 * x1) + x4) : Int32).toInt = ((12 * x1) : Int32).toInt + (x4 : Int32).toInt := i32_add (by omega) (by omega)
    refine ok_ck (by omega) (by omega) ?_
    have : 0 ≤ (σ3.1 16 (Int32.toNatClampNeg ((12 * x1) + x4))).toInt ∧ (σ3.1 16 (Int32.toNatClampNeg ((12 * x1) + x4))).toInt ≤ 5 := hI2.1 16 (Int32.toNatClampNeg ((12 * x1) + x4))
    refine ok_nmI (fun v7 hv7 he9 => ?_)
    have : (120 : Int32).toInt = 120 := by decide
    have : ((120 + x4) : Int32).toInt = (120 : Int32).toInt + (x4 : Int32).toInt := i32_add (by omega) (by omega)
    have : 0 ≤ (σ3.1 0 9).toInt ∧ (σ3.1 0 9).toInt ≤ 10 := hI2.1 0 9
    exact sX12_tries_162 t0 k71 σ3 x1 x4 v7 (120 + x4) hI2 (by omega) (by omega) (by omega) (by omega) (by omega) (by omega) (by omega) (by omega) (by omega) (by omega) (by omega) (by first | assumption | exact KeM.rf _) (by first | assumption | exact KeM.rf _) (by omega) (fun y0 y1 y2 q0 q1 q2 q3 q4 q5 q6 q7 q8 q9 q10 => hk71 y0 y1 y2 q0 q1 q2 q3 q4 q5 q6 q7 q8 q9 (by omega))

theorem sX12_tries_71 {g : Nat} (t0 : Int) : ∀ (n : Nat) (σ : S2) (x1 : Int32) (x4 : Int32), IvM g σ → 0 ≤ x1.toInt → x1.toInt ≤ 9 → 0 ≤ x4.toInt → x4.toInt ≤ 12 → (σ.1 0 9).toInt = t0 → g ≠ 0 → x1.toInt < (σ.1 0 9).toInt → SxM σ 10 → PcM σ 10 x4 → 12 - x4.toInt < (n : Int) → Ok (fun z => IvM g z.2 ∧ (z.2.1 0 9).toInt = t0 ∧ FaM z.2 (Int32.toNatClampNeg 10)) (fX12_tries_71 n σ x1 x4) := by
  have hFU : ((FU : Nat) : Int) = 100000 := rfl
  intro n
  induction n with
  | zero => intro σ x1 x4 hI p9000 p9001 p9002 p9003 p9004 p9005 p9006 p9007 p9008 hm; exfalso; omega
  | succ n ih =>
    intro σ x1 x4 hI p9000 p9001 p9002 p9003 p9004 p9005 p9006 p9007 p9008 hm
    unfold fX12_tries_71
    have : 0 ≤ (σ.1 0 3).toInt ∧ (σ.1 0 3).toInt ≤ 12 := hI.1 0 3
    refine ok_le (fun h1 => ?_) (fun h1 => ?_)
    · have : (10 : Int32).toInt = 10 := by decide
      have : 0 ≤ (σ.1 0 9).toInt ∧ (σ.1 0 9).toInt ≤ 10 := hI.1 0 9
      refine ok_bs (sX12_numbers (σ.1 0 9).toInt (σ.1 0 3).toInt σ σ 10 hI (by omega) (by omega) (by omega) (by omega) (by first | assumption | exact KeM.rf _)) (fun r8 σ9 hr2 => ?_)
      obtain ⟨p3, p4, p5, p6⟩ := hr2
      have p3 : IvM g σ9 := p3
      have p4 : (σ9.1 0 9).toInt = (σ.1 0 9).toInt := p4
      have p5 : (σ9.1 0 3).toInt = (σ.1 0 3).toInt := p5
      have p6 : KeM σ σ9 := p6
      have : CoM σ9 (Int32.toNatClampNeg 10) := KeM.co (show KeM σ σ9 by assumption) (CoM.mk' (t := 10) (x := x4) (by assumption) (by assumption) (by omega))
      have : 0 ≤ (σ9.1 0 9).toInt ∧ (σ9.1 0 9).toInt ≤ 10 := p3.1 0 9
      have : 0 ≤ (σ9.1 0 3).toInt ∧ (σ9.1 0 3).toInt ≤ 12 := p3.1 0 3
      refine ok_bs (sX12_reads (σ9.1 0 9).toInt (σ9.1 0 3).toInt σ9 σ9 10 p3 (by omega) (by omega) (by omega) (by omega) (by first | assumption | exact KeM.rf _)) (fun r11 σ12 hr7 => ?_)
      obtain ⟨p8, p9, p10, p11, p12, p13⟩ := hr7
      have p8 : IvM g σ12 := p8
      have p9 : (-1) ≤ r11.toInt := p9
      have p10 : r11.toInt ≤ 80 := p10
      have p11 : (σ12.1 0 9).toInt = (σ9.1 0 9).toInt := p11
      have p12 : (σ12.1 0 3).toInt = (σ9.1 0 3).toInt := p12
      have p13 : KeM σ9 σ12 := p13
      have : CoM σ12 (Int32.toNatClampNeg 10) := KeM.co (show KeM σ9 σ12 by assumption) (by assumption)
      have : 0 ≤ (σ12.1 0 9).toInt ∧ (σ12.1 0 9).toInt ≤ 10 := p8.1 0 9
      have : 0 ≤ (σ12.1 0 3).toInt ∧ (σ12.1 0 3).toInt ≤ 12 := p8.1 0 3
      refine ok_bs (sX12_sits (σ12.1 0 9).toInt (σ12.1 0 3).toInt σ12 10 p8 (by omega) (by omega) (by omega) (by omega) (by omega) (by omega) (by first | assumption | exact KeM.rf _)) (fun r14 σ15 hr14 => ?_)
      obtain ⟨p15, p16, p17, p18⟩ := hr14
      have p15 : IvM g σ15 := p15
      have p16 : (σ15.1 0 9).toInt = (σ12.1 0 9).toInt := p16
      have p17 : (σ15.1 0 3).toInt = (σ12.1 0 3).toInt := p17
      have p18 : FaM σ15 (Int32.toNatClampNeg (10 : Int32)) := p18
      exact ok_some ⟨p15, by show (σ15.1 0 9).toInt = t0; omega, by show FaM σ15 (Int32.toNatClampNeg 10); assumption⟩
    · refine ok_bi (sX12_isIn σ x1 x4 hI (by omega) (by omega) (by omega) (by omega)) (fun r17 hr19 => ?_)
      obtain ⟨p20, p21, p22⟩ := hr19
      have p20 : 0 ≤ r17.toInt := p20
      have p21 : r17.toInt ≤ 1 := p21
      have p22 : IiM σ x1 x4 r17 := p22
      have : r17.toInt ≠ 0 → 1 ≤ (σ.1 15 (Int32.toNatClampNeg ((12 * x1) + x4))).toInt := fun hr => co_cnt hI (by omega) (by omega) (by omega) (by omega) (by omega) (by assumption) hr
      have : (0 : Int32).toInt = 0 := by decide
      refine ok_eq (fun h23 => ?_) (fun h23 => ?_)
      · refine ok_bi (sX12_countsNow σ x4 hI (by omega) (by omega) (by omega)) (fun r19 hr24 => ?_)
        obtain ⟨p25, p26, p27⟩ := hr24
        have p25 : 0 ≤ r19.toInt := p25
        have p26 : r19.toInt ≤ 16 := p26
        have p27 : 1 ≤ r19.toInt := p27
        have : (120 : Int32).toInt = 120 := by decide
        have : ((120 + x4) : Int32).toInt = (120 : Int32).toInt + (x4 : Int32).toInt := i32_add (by omega) (by omega)
        have : 0 ≤ (σ.1 0 9).toInt ∧ (σ.1 0 9).toInt ≤ 10 := hI.1 0 9
        exact sX12_tries_120 t0 (fX12_tries_71 n) σ x1 x4 r19 (120 + x4) hI (by omega) (by omega) (by omega) (by omega) (by omega) (by omega) (by omega) (by omega) (by omega) (by omega) (by omega) (by first | assumption | exact KeM.rf _) (by first | assumption | exact KeM.rf _) (by omega) (by omega) (by omega) (fun y0 y1 y2 q0 q1 q2 q3 q4 q5 q6 q7 q8 q9 q10 => ih y0 y1 y2 q0 q1 q2 q3 q4 q5 q6 q7 q8 q9 (by omega))
      · have : (12 : Int32).toInt = 12 := by decide
        have : ((12 * x1) : Int32).toInt = 12 * (x1 : Int32).toInt := i32_mulL (by omega) (by omega) (by omega)
        have : (((12 * x1) + x4) : Int32).toInt = ((12 * x1) : Int32).toInt + (x4 : Int32).toInt := i32_add (by omega) (by omega)
        refine ok_ck (by omega) (by omega) ?_
        have : 0 ≤ (σ.1 15 (Int32.toNatClampNeg ((12 * x1) + x4))).toInt ∧ (σ.1 15 (Int32.toNatClampNeg ((12 * x1) + x4))).toInt ≤ 16 := hI.1 15 (Int32.toNatClampNeg ((12 * x1) + x4))
        refine ok_nmI (fun v21 hv21 he28 => ?_)
        have : (120 : Int32).toInt = 120 := by decide
        have : ((120 + x4) : Int32).toInt = (120 : Int32).toInt + (x4 : Int32).toInt := i32_add (by omega) (by omega)
        have : 0 ≤ (σ.1 0 9).toInt ∧ (σ.1 0 9).toInt ≤ 10 := hI.1 0 9
        exact sX12_tries_120 t0 (fX12_tries_71 n) σ x1 x4 v21 (120 + x4) hI (by omega) (by omega) (by omega) (by omega) (by omega) (by omega) (by omega) (by omega) (by omega) (by omega) (by omega) (by first | assumption | exact KeM.rf _) (by first | assumption | exact KeM.rf _) (by omega) (by omega) (by omega) (fun y0 y1 y2 q0 q1 q2 q3 q4 q5 q6 q7 q8 q9 q10 => ih y0 y1 y2 q0 q1 q2 q3 q4 q5 q6 q7 q8 q9 (by omega))

theorem sX12_tries_32 {g : Nat} (t0 : Int) : ∀ (n : Nat) (σ : S2) (x1 : Int32) (x4 : Int32), IvM g σ → 0 ≤ x1.toInt → x1.toInt ≤ 9 → 0 ≤ x4.toInt → x4.toInt ≤ 80 → (σ.1 0 9).toInt = t0 → g ≠ 0 → x1.toInt < (σ.1 0 9).toInt → SxM σ 10 → 80 - x4.toInt < (n : Int) → Ok (fun z => IvM g z.2 ∧ (z.2.1 0 9).toInt = t0 ∧ FaM z.2 (Int32.toNatClampNeg 10)) (fX12_tries_32 n σ x1 x4) := by
  have hFU : ((FU : Nat) : Int) = 100000 := rfl
  intro n
  induction n with
  | zero => intro σ x1 x4 hI p9000 p9001 p9002 p9003 p9004 p9005 p9006 p9007 hm; exfalso; omega
  | succ n ih =>
    intro σ x1 x4 hI p9000 p9001 p9002 p9003 p9004 p9005 p9006 p9007 hm
    unfold fX12_tries_32
    have : (80 : Int32).toInt = 80 := by decide
    refine ok_le (fun h1 => ?_) (fun h1 => ?_)
    · have : PcM σ 10 0 := fun k hk => by have : (0 : Int32).toInt = 0 := rfl; exfalso; omega
      have : (0 : Int32).toInt = 0 := by decide
      have : 0 ≤ (σ.1 0 9).toInt ∧ (σ.1 0 9).toInt ≤ 10 := hI.1 0 9
      exact sX12_tries_71 t0 FU σ x1 0 hI (by omega) (by omega) (by omega) (by omega) (by omega) (by omega) (by omega) (by first | assumption | exact KeM.rf _) (by first | assumption | exact KeM.rf _) (by omega)
    · have : ((80 * x1) : Int32).toInt = 80 * (x1 : Int32).toInt := i32_mulL (by omega) (by omega) (by omega)
      have : (((80 * x1) + x4) : Int32).toInt = ((80 * x1) : Int32).toInt + (x4 : Int32).toInt := i32_add (by omega) (by omega)
      refine ok_ck (by omega) (by omega) ?_
      have : 0 ≤ (σ.1 14 (Int32.toNatClampNeg ((80 * x1) + x4))).toInt ∧ (σ.1 14 (Int32.toNatClampNeg ((80 * x1) + x4))).toInt ≤ 255 := hI.1 14 (Int32.toNatClampNeg ((80 * x1) + x4))
      refine ok_nmI (fun v22 hv22 he2 => ?_)
      have : (800 : Int32).toInt = 800 := by decide
      have : ((800 + x4) : Int32).toInt = (800 : Int32).toInt + (x4 : Int32).toInt := i32_add (by omega) (by omega)
      refine ok_ck (by omega) (by omega) ?_
      refine ok_nm (fun σ23 hs3 => ?_)
      have hI4 : IvM g σ23 := by rw [hs3]; exact IvM.wI hI rfl (show 0 ≤ (v22 : Int32).toInt by omega) (show (v22 : Int32).toInt ≤ 255 by omega)
      have : SxM σ23 10 := by rw [hs3]; exact (show SxM σ 10 by assumption)
      have : (σ23.1 0 9).toInt = (σ.1 0 9).toInt := by rw [hs3]; rfl
      have : (σ23.1 0 3).toInt = (σ.1 0 3).toInt := by rw [hs3]; rfl
      have : (1 : Int32).toInt = 1 := by decide
      have : ((x4 + 1) : Int32).toInt = (x4 : Int32).toInt + (1 : Int32).toInt := i32_add (by omega) (by omega)
      refine ok_nmI (fun v24 hv24 he5 => ?_)
      have : 0 ≤ (σ23.1 0 9).toInt ∧ (σ23.1 0 9).toInt ≤ 10 := hI4.1 0 9
      exact ih σ23 x1 v24 hI4 (by omega) (by omega) (by omega) (by omega) (by omega) (by omega) (by omega) (by first | assumption | exact KeM.rf _) (by omega)

theorem sX12_tries_0 {g : Nat} (t0 : Int) (σ : S2) (x1 : Int32) (x2 : Int32) (x3 : Int32) (hI : IvM g σ) (p9000 : 0 ≤ x1.toInt) (p9001 : x1.toInt ≤ 9) (p9002 : 0 ≤ x2.toInt) (p9003 : x2.toInt ≤ 4095) (p9004 : (σ.1 0 9).toInt = t0) (p9005 : g ≠ 0) (p9006 : x1.toInt < (σ.1 0 9).toInt) (p9007 : SsM σ x2)  : Ok (fun z => IvM g z.2 ∧ (z.2.1 0 9).toInt = t0 ∧ FaM z.2 (Int32.toNatClampNeg 10)) (fX12_tries_0 σ x1 x2 x3) := by
  have hFU : ((FU : Nat) : Int) = 100000 := rfl
  unfold fX12_tries_0
  have : (10 : Int32).toInt = 10 := by decide
  refine ok_ck (by omega) (by omega) ?_
  refine ok_nm (fun σ25 hs1 => ?_)
  have : 0 ≤ (σ.1 0 9).toInt ∧ (σ.1 0 9).toInt ≤ 10 := hI.1 0 9
  have hI2 : IvM g σ25 := by rw [hs1]; have := i32_nat (i := 10) (by omega); exact IvM.w8 hI (by omega) (by omega) (show 0 ≤ (x2 : Int32).toInt by omega) (show (x2 : Int32).toInt ≤ 4095 by omega)
  have : SxM σ25 10 := by rw [hs1]; unfold SxM; rw [ux_wI_eq]; exact (show SsM σ x2 by assumption)
  have : (σ25.1 0 9).toInt = (σ.1 0 9).toInt := by rw [hs1]; rfl
  have : (σ25.1 0 3).toInt = (σ.1 0 3).toInt := by rw [hs1]; rfl
  refine ok_ck (by omega) (by omega) ?_
  have := i32_rng x3
  refine ok_nm (fun σ26 hs3 => ?_)
  have hI4 : IvM g σ26 := by rw [hs3]; exact IvM.wI hI2 rfl (i32_rng _).1 (i32_rng _).2
  have : SxM σ26 10 := by rw [hs3]; exact (show SxM σ25 10 by assumption)
  have : (σ26.1 0 9).toInt = (σ25.1 0 9).toInt := by rw [hs3]; rfl
  have : (σ26.1 0 3).toInt = (σ25.1 0 3).toInt := by rw [hs3]; rfl
  refine ok_ck (by omega) (by omega) ?_
  have : 0 ≤ (σ26.1 13 (Int32.toNatClampNeg x1)).toInt ∧ (σ26.1 13 (Int32.toNatClampNeg x1)).toInt ≤ 80 := hI4.1 13 (Int32.toNatClampNeg x1)
  refine ok_nmI (fun v27 hv27 he5 => ?_)
  refine ok_ck (by omega) (by omega) ?_
  refine ok_nm (fun σ28 hs6 => ?_)
  have hI7 : IvM g σ28 := by rw [hs6]; exact IvM.wI hI4 rfl (show 0 ≤ (v27 : Int32).toInt by omega) (show (v27 : Int32).toInt ≤ 80 by omega)
  have : SxM σ28 10 := by rw [hs6]; exact (show SxM σ26 10 by assumption)
  have : (σ28.1 0 9).toInt = (σ26.1 0 9).toInt := by rw [hs6]; rfl
  have : (σ28.1 0 3).toInt = (σ26.1 0 3).toInt := by rw [hs6]; rfl
  have : (0 : Int32).toInt = 0 := by decide
  have : 0 ≤ (σ28.1 0 9).toInt ∧ (σ28.1 0 9).toInt ≤ 10 := hI7.1 0 9
  exact sX12_tries_32 t0 FU σ28 x1 0 hI7 (by omega) (by omega) (by omega) (by omega) (by omega) (by omega) (by omega) (by first | assumption | exact KeM.rf _) (by omega)

theorem sX12_tries {g : Nat} (t0 : Int) (σ : S2) (a1 : Int32) (a2 : Int32) (a3 : Int32) (hI : IvM g σ) (p9000 : 0 ≤ a1.toInt) (p9001 : a1.toInt ≤ 9) (p9002 : 0 ≤ a2.toInt) (p9003 : a2.toInt ≤ 4095) (p9004 : (σ.1 0 9).toInt = t0) (p9005 : a1.toInt < (σ.1 0 9).toInt) (p9006 : SsM σ a2)  : Ok (fun z => IvM g z.2 ∧ (z.2.1 0 9).toInt = t0 ∧ FaM z.2 (Int32.toNatClampNeg 10)) (fX12_tries σ a1 a2 a3) := by
  unfold fX12_tries
  exact ok_mono (sX12_tries_0 (g := 1) t0 σ a1 a2 a3 hI.weak (by first | assumption | omega) (by first | assumption | omega) (by first | assumption | omega) (by first | assumption | omega) (by first | assumption | omega) (by first | assumption | omega) (by first | assumption | omega) (by first | assumption | omega)) (fun z hz => ⟨hz.1.full hz.2.2, hz.2.1, hz.2.2⟩)

theorem sX12_setBy_10 {g : Nat} : ∀ (n : Nat) (σ : S2) (x2 : Int32) (x3 : Int32) (x4 : Int32), IvM g σ → 0 ≤ x2.toInt → x2.toInt ≤ 31 → 0 ≤ x3.toInt → x3.toInt ≤ 4095 → 0 ≤ x4.toInt → x4.toInt ≤ 5 → 1 ≤ (σ.1 0 3).toInt → (σ.1 0 3).toInt ≤ 12 → SsM σ x3 → 5 - x4.toInt < (n : Int) → Ok (fun z => 0 ≤ z.toInt ∧ z.toInt ≤ 4095 ∧ SsM σ z) (fX12_setBy_10 n σ x2 x3 x4) := by
  have hFU : ((FU : Nat) : Int) = 100000 := rfl
  intro n
  induction n with
  | zero => intro σ x2 x3 x4 hI p9000 p9001 p9002 p9003 p9004 p9005 p9006 p9007 p9008 hm; exfalso; omega
  | succ n ih =>
    intro σ x2 x3 x4 hI p9000 p9001 p9002 p9003 p9004 p9005 p9006 p9007 p9008 hm
    unfold fX12_setBy_10
    have : 0 ≤ (σ.1 0 30).toInt ∧ (σ.1 0 30).toInt ≤ 5 := hI.1 0 30
    refine ok_le (fun h1 => ?_) (fun h1 => ?_)
    · exact ok_some ⟨by show 0 ≤ x3.toInt; omega, by show x3.toInt ≤ 4095; omega, by show SsM σ x3; assumption⟩
    · refine ok_ck (by omega) (by omega) ?_
      have : 0 ≤ (σ.1 26 (Int32.toNatClampNeg x4)).toInt ∧ (σ.1 26 (Int32.toNatClampNeg x4)).toInt ≤ 11 := hI.1 26 (Int32.toNatClampNeg x4); have : (σ.1 26 (Int32.toNatClampNeg x4)).toInt < (σ.1 0 3).toInt ∨ (σ.1 26 (Int32.toNatClampNeg x4)).toInt = 0 := hI.2.2.2.2.1 (Int32.toNatClampNeg x4); have : (σ.1 0 9).toInt = 0 ∨ 1 ≤ (σ.1 0 3).toInt := hI.2.2.2.2.2
      refine ok_nmI (fun v1 hv1 he2 => ?_)
      have : (31 : Int32).toInt = 31 := by decide
      have := i32_andR (a := x4) (m := 31) (by omega)
      have := i32_andL (a := x4) (m := 31) (by omega)
      have := i32_sar (a := x2) (k := (x4 &&& 31)) (by omega)
      have : (1 : Int32).toInt = 1 := by decide
      have := i32_andR (a := (x2 >>> (x4 &&& 31))) (m := 1) (by omega)
      have := i32_andR (a := v1) (m := 31) (by omega)
      have := i32_andL (a := v1) (m := 31) (by omega)
      have : 0 ≤ ((((x2 >>> (x4 &&& 31)) &&& 1) <<< (v1 &&& 31)) : Int32).toInt ∧ ((((x2 >>> (x4 &&& 31)) &&& 1) <<< (v1 &&& 31)) : Int32).toInt ≤ 2048 := i32_shlb 11 (by omega) (by omega) (by omega) (by omega) (by decide)
      have := i32_xorB (a := x3) (b := (((x2 >>> (x4 &&& 31)) &&& 1) <<< (v1 &&& 31))) 12 4095 (by decide) (by decide) (by omega) (by omega) (by omega) (by omega)
      refine ok_nmI (fun v2 hv2 he3 => ?_)
      have : ((x4 + 1) : Int32).toInt = (x4 : Int32).toInt + (1 : Int32).toInt := i32_add (by omega) (by omega)
      refine ok_nmI (fun v3 hv3 he4 => ?_)
      exact ih σ x2 v2 v3 hI (by omega) (by omega) (by omega) (by omega) (by omega) (by omega) (by omega) (by omega) (by first | assumption | exact KeM.rf _ | (rw [hv2]; exact SsM.xor (by assumption) (by omega) (by omega) (by omega) (by omega) (by omega))) (by omega)

theorem sX12_setBy_0 {g : Nat} (σ : S2) (x1 : Int32) (x2 : Int32) (hI : IvM g σ) (p9000 : 0 ≤ x1.toInt) (p9001 : x1.toInt ≤ 9) (p9002 : 0 ≤ x2.toInt) (p9003 : x2.toInt ≤ 31) (p9004 : x1.toInt < (σ.1 0 9).toInt)  : Ok (fun z => 0 ≤ z.toInt ∧ z.toInt ≤ 4095 ∧ SsM σ z) (fX12_setBy_0 σ x1 x2) := by
  have hFU : ((FU : Nat) : Int) = 100000 := rfl
  unfold fX12_setBy_0
  refine ok_ck (by omega) (by omega) ?_
  have : 0 ≤ (σ.1 8 (Int32.toNatClampNeg x1)).toInt ∧ (σ.1 8 (Int32.toNatClampNeg x1)).toInt ≤ 4095 := hI.1 8 (Int32.toNatClampNeg x1)
  refine ok_nmI (fun v4 hv4 he1 => ?_)
  have : (σ.1 0 9).toInt = 0 ∨ 1 ≤ (σ.1 0 3).toInt := hI.2.2.2.2.2
  have : 0 ≤ (σ.1 0 3).toInt ∧ (σ.1 0 3).toInt ≤ 12 := hI.1 0 3
  have : (0 : Int32).toInt = 0 := by decide
  exact sX12_setBy_10 FU σ x2 v4 0 hI (by omega) (by omega) (by omega) (by omega) (by omega) (by omega) (by omega) (by omega) (by first | assumption | exact KeM.rf _ | (rw [hv4]; exact ss_of hI (by omega) (by omega))) (by omega)

theorem sX12_setBy {g : Nat} (σ : S2) (a1 : Int32) (a2 : Int32) (hI : IvM g σ) (p9000 : 0 ≤ a1.toInt) (p9001 : a1.toInt ≤ 9) (p9002 : 0 ≤ a2.toInt) (p9003 : a2.toInt ≤ 31) (p9004 : a1.toInt < (σ.1 0 9).toInt)  : Ok (fun z => 0 ≤ z.toInt ∧ z.toInt ≤ 4095 ∧ SsM σ z) (fX12_setBy σ a1 a2) := by
  unfold fX12_setBy
  exact sX12_setBy_0 σ a1 a2 hI (by assumption) (by assumption) (by assumption) (by assumption) (by assumption)

theorem sX12_nextOrder {g : Nat} (σ : S2) (a1 : Int32) (hI : IvM g σ) (p9000 : 0 ≤ a1.toInt) (p9001 : a1.toInt ≤ 5)  : Ok (fun z => IvM g z.2 ∧ 0 ≤ z.1.toInt ∧ z.1.toInt ≤ 1) (fX12_nextOrder σ a1) := by
  sorry

theorem sX12_movesBy_44 {g : Nat} (k7 : S2 → Int32 → Int32 → Int32 → Int32 → Option Int32) : ∀ (n : Nat) (σ : S2) (x1 : Int32) (x2 : Int32) (x3 : Int32) (x4 : Int32) (x5 : Int32) (x6 : Int32), IvM g σ → 0 ≤ x1.toInt → x1.toInt ≤ 9 → 0 ≤ x3.toInt → x3.toInt ≤ 31 → 0 ≤ x4.toInt → x4.toInt ≤ 4 → 0 ≤ x5.toInt → x5.toInt ≤ 31 → 0 ≤ x6.toInt → x6.toInt ≤ 40 → x1.toInt < (σ.1 0 9).toInt → 40 - x6.toInt < (n : Int) → (∀ (y0 : S2) (y1 : Int32) (y2 : Int32) (y3 : Int32) (y4 : Int32), IvM g y0 → 0 ≤ y1.toInt → y1.toInt ≤ 9 → 0 ≤ y3.toInt → y3.toInt ≤ 31 → 0 ≤ y4.toInt → y4.toInt ≤ 5 → y1.toInt < (y0.1 0 9).toInt → x4.toInt + 1 ≤ y4.toInt → Ok (fun z => True) (k7 y0 y1 y2 y3 y4)) → Ok (fun z => True) (fX12_movesBy_44 k7 n σ x1 x2 x3 x4 x5 x6) := by
  have hFU : ((FU : Nat) : Int) = 100000 := rfl
  intro n
  induction n with
  | zero => intro σ x1 x2 x3 x4 x5 x6 hI p9000 p9001 p9002 p9003 p9004 p9005 p9006 p9007 p9008 p9009 p9010 hm hk7; exfalso; omega
  | succ n ih =>
    intro σ x1 x2 x3 x4 x5 x6 hI p9000 p9001 p9002 p9003 p9004 p9005 p9006 p9007 p9008 p9009 p9010 hm hk7
    unfold fX12_movesBy_44
    have : 0 ≤ (σ.1 0 0).toInt ∧ (σ.1 0 0).toInt ≤ 40 := hI.1 0 0
    refine ok_le (fun h1 => ?_) (fun h1 => ?_)
    · have : (1 : Int32).toInt = 1 := by decide
      have : ((x4 + 1) : Int32).toInt = (x4 : Int32).toInt + (1 : Int32).toInt := i32_add (by omega) (by omega)
      refine ok_nmI (fun v1 hv1 he2 => ?_)
      have := i32_rng x2
      exact hk7 σ x1 x2 x5 v1 hI (by omega) (by omega) (by omega) (by omega) (by omega) (by omega) (by omega) (by omega)
    · have : (40 : Int32).toInt = 40 := by decide
      have : ((40 * x5) : Int32).toInt = 40 * (x5 : Int32).toInt := i32_mulL (by omega) (by omega) (by omega)
      have : (((40 * x5) + x6) : Int32).toInt = ((40 * x5) : Int32).toInt + (x6 : Int32).toInt := i32_add (by omega) (by omega)
      refine ok_ck (by omega) (by omega) ?_
      have : 0 ≤ (σ.1 38 (Int32.toNatClampNeg ((40 * x5) + x6))).toInt ∧ (σ.1 38 (Int32.toNatClampNeg ((40 * x5) + x6))).toInt ≤ 4 := hI.1 38 (Int32.toNatClampNeg ((40 * x5) + x6))
      refine ok_nmI (fun v2 hv2 he3 => ?_)
      have : ((40 * x3) : Int32).toInt = 40 * (x3 : Int32).toInt := i32_mulL (by omega) (by omega) (by omega)
      have : (((40 * x3) + x6) : Int32).toInt = ((40 * x3) : Int32).toInt + (x6 : Int32).toInt := i32_add (by omega) (by omega)
      refine ok_ck (by omega) (by omega) ?_
      have : 0 ≤ (σ.1 38 (Int32.toNatClampNeg ((40 * x3) + x6))).toInt ∧ (σ.1 38 (Int32.toNatClampNeg ((40 * x3) + x6))).toInt ≤ 4 := hI.1 38 (Int32.toNatClampNeg ((40 * x3) + x6))
      refine ok_nmI (fun v3 hv3 he4 => ?_)
      have : ((-1) : Int32).toInt = (-1) := by decide
      have := i32_rng (v3 ^^^ (-1))
      have := i32_andL (a := v2) (m := (v3 ^^^ (-1))) (by omega)
      refine ok_bi (sX12_ones σ (v2 &&& (v3 ^^^ (-1))) hI (by omega) (by omega)) (fun r4 hr5 => ?_)
      obtain ⟨p6, p7⟩ := hr5
      have p6 : 0 ≤ r4.toInt := p6
      have p7 : r4.toInt ≤ 12 := p7
      have := i32_rng x2
      have := i32_rng (x2 + r4)
      refine ok_nmI (fun v6 hv6 he8 => ?_)
      have : (1 : Int32).toInt = 1 := by decide
      have : ((x6 + 1) : Int32).toInt = (x6 : Int32).toInt + (1 : Int32).toInt := i32_add (by omega) (by omega)
      refine ok_nmI (fun v7 hv7 he9 => ?_)
      have := i32_rng v6
      exact ih σ x1 v6 x3 x4 x5 v7 hI (by omega) (by omega) (by omega) (by omega) (by omega) (by omega) (by omega) (by omega) (by omega) (by omega) (by omega) (by omega) (fun y0 y1 y2 y3 y4 q0 q1 q2 q3 q4 q5 q6 q7 q8 => hk7 y0 y1 y2 y3 y4 q0 q1 q2 q3 q4 q5 q6 q7 (by omega))

theorem sX12_movesBy_7 {g : Nat} : ∀ (n : Nat) (σ : S2) (x1 : Int32) (x2 : Int32) (x3 : Int32) (x4 : Int32), IvM g σ → 0 ≤ x1.toInt → x1.toInt ≤ 9 → 0 ≤ x3.toInt → x3.toInt ≤ 31 → 0 ≤ x4.toInt → x4.toInt ≤ 5 → x1.toInt < (σ.1 0 9).toInt → 5 - x4.toInt < (n : Int) → Ok (fun z => True) (fX12_movesBy_7 n σ x1 x2 x3 x4) := by
  have hFU : ((FU : Nat) : Int) = 100000 := rfl
  intro n
  induction n with
  | zero => intro σ x1 x2 x3 x4 hI p9000 p9001 p9002 p9003 p9004 p9005 p9006 hm; exfalso; omega
  | succ n ih =>
    intro σ x1 x2 x3 x4 hI p9000 p9001 p9002 p9003 p9004 p9005 p9006 hm
    unfold fX12_movesBy_7
    have : 0 ≤ (σ.1 0 30).toInt ∧ (σ.1 0 30).toInt ≤ 5 := hI.1 0 30
    refine ok_le (fun h1 => ?_) (fun h1 => ?_)
    · have := i32_rng x2
      exact ok_some trivial
    · refine ok_ck (by omega) (by omega) ?_
      have : 0 ≤ (σ.1 39 (Int32.toNatClampNeg x4)).toInt ∧ (σ.1 39 (Int32.toNatClampNeg x4)).toInt ≤ 4 := hI.1 39 (Int32.toNatClampNeg x4)
      refine ok_nmI (fun v8 hv8 he2 => ?_)
      have : (1 : Int32).toInt = 1 := by decide
      have : (31 : Int32).toInt = 31 := by decide
      have := i32_andR (a := v8) (m := 31) (by omega)
      have := i32_andL (a := v8) (m := 31) (by omega)
      have : 1 ≤ ((1 <<< (v8 &&& 31)) : Int32).toInt ∧ ((1 <<< (v8 &&& 31)) : Int32).toInt ≤ 16 := i32_shlB 4 (by omega) (by omega) (by decide)
      have := i32_orB (a := x3) (b := (1 <<< (v8 &&& 31))) 5 31 (by decide) (by decide) (by omega) (by omega) (by omega) (by omega)
      refine ok_nmI (fun v9 hv9 he3 => ?_)
      refine ok_bi (sX12_setBy σ x1 v9 hI (by omega) (by omega) (by omega) (by omega) (by omega)) (fun r10 hr4 => ?_)
      obtain ⟨p5, p6, p7⟩ := hr4
      have p5 : 0 ≤ r10.toInt := p5
      have p6 : r10.toInt ≤ 4095 := p6
      have p7 : SsM σ r10 := p7
      have : (0 : Int32).toInt = 0 := by decide
      refine ok_eq (fun h8 => ?_) (fun h8 => ?_)
      · have : ((-1) : Int32).toInt = (-1) := by decide
        exact ok_some trivial
      · have := i32_rng x2
        exact sX12_movesBy_44 (fX12_movesBy_7 n) FU σ x1 x2 x3 x4 v9 0 hI (by omega) (by omega) (by omega) (by omega) (by omega) (by omega) (by omega) (by omega) (by omega) (by omega) (by omega) (by omega) (fun y0 y1 y2 y3 y4 q0 q1 q2 q3 q4 q5 q6 q7 q8 => ih y0 y1 y2 y3 y4 q0 q1 q2 q3 q4 q5 q6 q7 (by omega))

theorem sX12_movesBy_0 {g : Nat} (σ : S2) (x1 : Int32) (hI : IvM g σ) (p9000 : 0 ≤ x1.toInt) (p9001 : x1.toInt ≤ 9) (p9002 : x1.toInt < (σ.1 0 9).toInt)  : Ok (fun z => True) (fX12_movesBy_0 σ x1) := by
  have hFU : ((FU : Nat) : Int) = 100000 := rfl
  unfold fX12_movesBy_0
  have : (0 : Int32).toInt = 0 := by decide
  exact sX12_movesBy_7 FU σ x1 0 0 0 hI (by omega) (by omega) (by omega) (by omega) (by omega) (by omega) (by omega) (by omega)

theorem sX12_movesBy {g : Nat} (σ : S2) (a1 : Int32) (hI : IvM g σ) (p9000 : 0 ≤ a1.toInt) (p9001 : a1.toInt ≤ 9) (p9002 : a1.toInt < (σ.1 0 9).toInt)  : Ok (fun z => True) (fX12_movesBy σ a1) := by
  unfold fX12_movesBy
  exact sX12_movesBy_0 σ a1 hI (by assumption) (by assumption) (by assumption)

theorem sX12_order {g : Nat} (σ : S2) (a1 : Int32) (hI : IvM g σ)   : Ok (fun z => IvM g z.2 ∧ (-2) ≤ z.1.toInt) (fX12_order σ a1) := by
  sorry

theorem sX12_ordered_0 {g : Nat} (σ : S2) (x1 : Int32) (hI : IvM g σ)   : Ok (fun z => (-1) ≤ z.toInt ∧ z.toInt ≤ 4) (fX12_ordered_0 σ x1) := by
  have hFU : ((FU : Nat) : Int) = 100000 := rfl
  unfold fX12_ordered_0
  have := i32_rng x1
  have : (0 : Int32).toInt = 0 := by decide
  have : 0 ≤ (σ.1 0 32).toInt ∧ (σ.1 0 32).toInt ≤ 5 := hI.1 0 32
  have : (1 : Int32).toInt = 1 := by decide
  have : (((σ.1 0 32) - 1) : Int32).toInt = ((σ.1 0 32) : Int32).toInt - (1 : Int32).toInt := i32_sub (by omega) (by omega)
  refine ok_bi (sX12_in σ x1 0 ((σ.1 0 32) - 1) hI (by omega) (by omega) (by omega) (by omega)) (fun r1 hr1 => ?_)
  obtain ⟨p2, p3, p4⟩ := hr1
  have p2 : 0 ≤ r1.toInt := p2
  have p3 : r1.toInt ≤ 1 := p3
  have p4 : r1.toInt ≠ 0 → (0 : Int32).toInt ≤ x1.toInt ∧ x1.toInt ≤ ((σ.1 0 32) - 1).toInt := p4
  refine ok_eq (fun h5 => ?_) (fun h5 => ?_)
  · have : ((-1) : Int32).toInt = (-1) := by decide
    exact ok_some ⟨by show (-1) ≤ ((-1) : Int32).toInt; omega, by show ((-1) : Int32).toInt ≤ 4; omega⟩
  · refine ok_ck (by omega) (by omega) ?_
    have : 0 ≤ (σ.1 27 (Int32.toNatClampNeg x1)).toInt ∧ (σ.1 27 (Int32.toNatClampNeg x1)).toInt ≤ 4 := hI.1 27 (Int32.toNatClampNeg x1)
    refine ok_nmI (fun v3 hv3 he6 => ?_)
    exact ok_some ⟨by show (-1) ≤ v3.toInt; omega, by show v3.toInt ≤ 4; omega⟩

theorem sX12_ordered {g : Nat} (σ : S2) (a1 : Int32) (hI : IvM g σ)   : Ok (fun z => (-1) ≤ z.toInt ∧ z.toInt ≤ 4) (fX12_ordered σ a1) := by
  unfold fX12_ordered
  exact sX12_ordered_0 σ a1 hI

theorem sX12_turning_0 {g : Nat} (σ : S2) (x1 : Int32) (hI : IvM g σ)   : Ok (fun z => IvM g z.2 ∧ (-3) ≤ z.1.toInt ∧ z.1.toInt ≤ 6) (fX12_turning_0 σ x1) := by
  have hFU : ((FU : Nat) : Int) = 100000 := rfl
  unfold fX12_turning_0
  have : 0 ≤ (σ.1 0 34).toInt ∧ (σ.1 0 34).toInt ≤ 6 := hI.1 0 34
  have : (6 : Int32).toInt = 6 := by decide
  refine ok_eq (fun h1 => ?_) (fun h1 => ?_)
  · have : ((-3) : Int32).toInt = (-3) := by decide
    exact ok_some ⟨hI, by show (-3) ≤ ((-3) : Int32).toInt; omega, by show ((-3) : Int32).toInt ≤ 6; omega⟩
  · refine ok_ck (by omega) (by omega) ?_
    have := i32_rng x1
    refine ok_nm (fun σ1 hs2 => ?_)
    have hI3 : IvM g σ1 := by rw [hs2]; exact IvM.wI hI rfl (i32_rng _).1 (i32_rng _).2
    have : (σ1.1 0 34).toInt = (σ.1 0 34).toInt := by rw [hs2]; rfl
    have : 0 ≤ (σ1.1 0 34).toInt ∧ (σ1.1 0 34).toInt ≤ 6 := hI3.1 0 34
    have : (1 : Int32).toInt = 1 := by decide
    have : (((σ1.1 0 34) + 1) : Int32).toInt = ((σ1.1 0 34) : Int32).toInt + (1 : Int32).toInt := i32_add (by omega) (by omega)
    refine ok_nm (fun σ2 hs4 => ?_)
    have hI5 : IvM g σ2 := by rw [hs4]; exact IvM.wI hI3 rfl (show 0 ≤ (((σ1.1 0 34) + 1) : Int32).toInt by omega) (show (((σ1.1 0 34) + 1) : Int32).toInt ≤ 6 by omega)
    have : (σ2.1 0 34).toInt = (((σ1.1 0 34) + 1) : Int32).toInt := by rw [hs4]; rfl
    have : 0 ≤ (σ2.1 0 34).toInt ∧ (σ2.1 0 34).toInt ≤ 6 := hI5.1 0 34
    exact ok_some ⟨hI5, by show (-3) ≤ (σ2.1 0 34).toInt; omega, by show (σ2.1 0 34).toInt ≤ 6; omega⟩

theorem sX12_turning {g : Nat} (σ : S2) (a1 : Int32) (hI : IvM g σ)   : Ok (fun z => IvM g z.2 ∧ (-3) ≤ z.1.toInt ∧ z.1.toInt ≤ 6) (fX12_turning σ a1) := by
  unfold fX12_turning
  exact sX12_turning_0 σ a1 hI

theorem sX12_harm_129 {g : Nat} (k21 : S2 → Int32 → Int32 → Int32 → Option (Int32 × S2)) (σ : S2) (x1 : Int32) (x2 : Int32) (x3 : Int32) (hI : IvM g σ) (p9000 : 0 ≤ x1.toInt) (p9001 : x1.toInt ≤ 9) (p9002 : 0 ≤ x2.toInt) (p9003 : x2.toInt ≤ 5) (p9004 : 0 ≤ x3.toInt) (p9005 : x3.toInt ≤ 5) (p9006 : g = 0) (p9007 : x1.toInt < (σ.1 0 9).toInt) (hk21 : ∀ (y0 : S2) (y1 : Int32) (y2 : Int32) (y3 : Int32), IvM g y0 → 0 ≤ y1.toInt → y1.toInt ≤ 9 → (-1) ≤ y2.toInt → y2.toInt ≤ 5 → 0 ≤ y3.toInt → y3.toInt ≤ 6 → g = 0 → y1.toInt < (y0.1 0 9).toInt → x3.toInt + 1 ≤ y3.toInt → Ok (fun z => IvM g z.2 ∧ (-1) ≤ z.1.toInt ∧ z.1.toInt ≤ 5) (k21 y0 y1 y2 y3)) : Ok (fun z => IvM g z.2 ∧ (-1) ≤ z.1.toInt ∧ z.1.toInt ≤ 5) (fX12_harm_129 k21 σ x1 x2 x3) := by
  have hFU : ((FU : Nat) : Int) = 100000 := rfl
  unfold fX12_harm_129
  have : (1 : Int32).toInt = 1 := by decide
  have : ((x3 + 1) : Int32).toInt = (x3 : Int32).toInt + (1 : Int32).toInt := i32_add (by omega) (by omega)
  refine ok_nmI (fun v1 hv1 he1 => ?_)
  exact hk21 σ x1 x2 v1 hI (by omega) (by omega) (by omega) (by omega) (by omega) (by omega) (by omega) (by omega) (by omega)

theorem sX12_harm_121 {g : Nat} (k21 : S2 → Int32 → Int32 → Int32 → Option (Int32 × S2)) (σ : S2) (x1 : Int32) (x3 : Int32) (x4 : Int32) (hI : IvM g σ) (p9000 : 0 ≤ x1.toInt) (p9001 : x1.toInt ≤ 9) (p9002 : 0 ≤ x3.toInt) (p9003 : x3.toInt ≤ 5) (p9004 : 0 ≤ x4.toInt) (p9005 : g = 0) (p9006 : x1.toInt < (σ.1 0 9).toInt) (hk21 : ∀ (y0 : S2) (y1 : Int32) (y2 : Int32) (y3 : Int32), IvM g y0 → 0 ≤ y1.toInt → y1.toInt ≤ 9 → (-1) ≤ y2.toInt → y2.toInt ≤ 5 → 0 ≤ y3.toInt → y3.toInt ≤ 6 → g = 0 → y1.toInt < (y0.1 0 9).toInt → x3.toInt + 1 ≤ y3.toInt → Ok (fun z => IvM g z.2 ∧ (-1) ≤ z.1.toInt ∧ z.1.toInt ≤ 5) (k21 y0 y1 y2 y3)) : Ok (fun z => IvM g z.2 ∧ (-1) ≤ z.1.toInt ∧ z.1.toInt ≤ 5) (fX12_harm_121 k21 σ x1 x3 x4) := by
  have hFU : ((FU : Nat) : Int) = 100000 := rfl
  unfold fX12_harm_121
  have := i32_rng x4
  refine ok_nm (fun σ2 hs1 => ?_)
  have hI2 : IvM g σ2 := by rw [hs1]; exact IvM.wI hI rfl (show (-1) ≤ (x4 : Int32).toInt by omega) (i32_rng _).2
  have : (σ2.1 0 9).toInt = (σ.1 0 9).toInt := by rw [hs1]; rfl
  exact sX12_harm_129 k21 σ2 x1 x3 x3 hI2 (by omega) (by omega) (by omega) (by omega) (by omega) (by omega) (by omega) (by omega) (fun y0 y1 y2 y3 q0 q1 q2 q3 q4 q5 q6 q7 q8 q9 => hk21 y0 y1 y2 y3 q0 q1 q2 q3 q4 q5 q6 q7 q8 (by omega))

theorem sX12_harm_100 {g : Nat} (k52 : S2 → Int32 → Int32 → Int32 → Int32 → Int32 → Option (Int32 × S2)) (σ : S2) (x1 : Int32) (x2 : Int32) (x3 : Int32) (x5 : Int32) (s0 : Int32) (hI : IvM g σ) (p9000 : 0 ≤ x1.toInt) (p9001 : x1.toInt ≤ 9) (p9002 : (-1) ≤ x2.toInt) (p9003 : x2.toInt ≤ 5) (p9004 : 0 ≤ x3.toInt) (p9005 : x3.toInt ≤ 5) (p9006 : 0 ≤ x5.toInt) (p9007 : x5.toInt ≤ 11) (p9008 : 0 ≤ s0.toInt) (p9009 : g = 0) (p9010 : x1.toInt < (σ.1 0 9).toInt) (hk52 : ∀ (y0 : S2) (y1 : Int32) (y2 : Int32) (y3 : Int32) (y4 : Int32) (y5 : Int32), IvM g y0 → 0 ≤ y1.toInt → y1.toInt ≤ 9 → (-1) ≤ y2.toInt → y2.toInt ≤ 5 → 0 ≤ y3.toInt → y3.toInt ≤ 5 → 0 ≤ y4.toInt → 0 ≤ y5.toInt → y5.toInt ≤ 12 → g = 0 → y1.toInt < (y0.1 0 9).toInt → x5.toInt + 1 ≤ y5.toInt → x3.toInt ≤ y3.toInt → Ok (fun z => IvM g z.2 ∧ (-1) ≤ z.1.toInt ∧ z.1.toInt ≤ 5) (k52 y0 y1 y2 y3 y4 y5)) : Ok (fun z => IvM g z.2 ∧ (-1) ≤ z.1.toInt ∧ z.1.toInt ≤ 5) (fX12_harm_100 k52 σ x1 x2 x3 x5 s0) := by
  have hFU : ((FU : Nat) : Int) = 100000 := rfl
  unfold fX12_harm_100
  have : (1 : Int32).toInt = 1 := by decide
  have : ((x5 + 1) : Int32).toInt = (x5 : Int32).toInt + (1 : Int32).toInt := i32_add (by omega) (by omega)
  refine ok_nmI (fun v3 hv3 he1 => ?_)
  have := i32_rng s0
  exact hk52 σ x1 x2 x3 s0 v3 hI (by omega) (by omega) (by omega) (by omega) (by omega) (by omega) (by omega) (by omega) (by omega) (by omega) (by omega) (by omega) (by omega)

theorem sX12_harm_84 {g : Nat} (k52 : S2 → Int32 → Int32 → Int32 → Int32 → Int32 → Option (Int32 × S2)) (σ : S2) (x1 : Int32) (x2 : Int32) (x3 : Int32) (x4 : Int32) (x5 : Int32) (s0 : Int32) (hI : IvM g σ) (p9000 : 0 ≤ x1.toInt) (p9001 : x1.toInt ≤ 9) (p9002 : (-1) ≤ x2.toInt) (p9003 : x2.toInt ≤ 5) (p9004 : 0 ≤ x3.toInt) (p9005 : x3.toInt ≤ 5) (p9006 : 0 ≤ x4.toInt) (p9007 : 0 ≤ x5.toInt) (p9008 : x5.toInt ≤ 11) (p9009 : g = 0) (p9010 : x1.toInt < (σ.1 0 9).toInt) (hk52 : ∀ (y0 : S2) (y1 : Int32) (y2 : Int32) (y3 : Int32) (y4 : Int32) (y5 : Int32), IvM g y0 → 0 ≤ y1.toInt → y1.toInt ≤ 9 → (-1) ≤ y2.toInt → y2.toInt ≤ 5 → 0 ≤ y3.toInt → y3.toInt ≤ 5 → 0 ≤ y4.toInt → 0 ≤ y5.toInt → y5.toInt ≤ 12 → g = 0 → y1.toInt < (y0.1 0 9).toInt → x5.toInt + 1 ≤ y5.toInt → x3.toInt ≤ y3.toInt → Ok (fun z => IvM g z.2 ∧ (-1) ≤ z.1.toInt ∧ z.1.toInt ≤ 5) (k52 y0 y1 y2 y3 y4 y5)) : Ok (fun z => IvM g z.2 ∧ (-1) ≤ z.1.toInt ∧ z.1.toInt ≤ 5) (fX12_harm_84 k52 σ x1 x2 x3 x4 x5 s0) := by
  have hFU : ((FU : Nat) : Int) = 100000 := rfl
  unfold fX12_harm_84
  have := i32_rng s0
  have := i32_rng x4
  refine ok_le (fun h1 => ?_) (fun h1 => ?_)
  · exact sX12_harm_100 k52 σ x1 x2 x3 x5 x4 hI (by omega) (by omega) (by omega) (by omega) (by omega) (by omega) (by omega) (by omega) (by omega) (by omega) (by omega) (fun y0 y1 y2 y3 y4 y5 q0 q1 q2 q3 q4 q5 q6 q7 q8 q9 q10 q11 q12 q13 => hk52 y0 y1 y2 y3 y4 y5 q0 q1 q2 q3 q4 q5 q6 q7 q8 q9 q10 q11 (by omega) (by omega))
  · exact sX12_harm_100 k52 σ x1 x2 x3 x5 s0 hI (by omega) (by omega) (by omega) (by omega) (by omega) (by omega) (by omega) (by omega) (by omega) (by omega) (by omega) (fun y0 y1 y2 y3 y4 y5 q0 q1 q2 q3 q4 q5 q6 q7 q8 q9 q10 q11 q12 q13 => hk52 y0 y1 y2 y3 y4 y5 q0 q1 q2 q3 q4 q5 q6 q7 q8 q9 q10 q11 (by omega) (by omega))

theorem sX12_harm_52 {g : Nat} (k21 : S2 → Int32 → Int32 → Int32 → Option (Int32 × S2)) : ∀ (n : Nat) (σ : S2) (x1 : Int32) (x2 : Int32) (x3 : Int32) (x4 : Int32) (x5 : Int32), IvM g σ → 0 ≤ x1.toInt → x1.toInt ≤ 9 → (-1) ≤ x2.toInt → x2.toInt ≤ 5 → 0 ≤ x3.toInt → x3.toInt ≤ 5 → 0 ≤ x4.toInt → 0 ≤ x5.toInt → x5.toInt ≤ 12 → g = 0 → x1.toInt < (σ.1 0 9).toInt → 12 - x5.toInt < (n : Int) → (∀ (y0 : S2) (y1 : Int32) (y2 : Int32) (y3 : Int32), IvM g y0 → 0 ≤ y1.toInt → y1.toInt ≤ 9 → (-1) ≤ y2.toInt → y2.toInt ≤ 5 → 0 ≤ y3.toInt → y3.toInt ≤ 6 → g = 0 → y1.toInt < (y0.1 0 9).toInt → x3.toInt + 1 ≤ y3.toInt → Ok (fun z => IvM g z.2 ∧ (-1) ≤ z.1.toInt ∧ z.1.toInt ≤ 5) (k21 y0 y1 y2 y3)) → Ok (fun z => IvM g z.2 ∧ (-1) ≤ z.1.toInt ∧ z.1.toInt ≤ 5) (fX12_harm_52 k21 n σ x1 x2 x3 x4 x5) := by
  have hFU : ((FU : Nat) : Int) = 100000 := rfl
  intro n
  induction n with
  | zero => intro σ x1 x2 x3 x4 x5 hI p9000 p9001 p9002 p9003 p9004 p9005 p9006 p9007 p9008 p9009 p9010 hm hk21; exfalso; omega
  | succ n ih =>
    intro σ x1 x2 x3 x4 x5 hI p9000 p9001 p9002 p9003 p9004 p9005 p9006 p9007 p9008 p9009 p9010 hm hk21
    unfold fX12_harm_52
    have : 0 ≤ (σ.1 0 3).toInt ∧ (σ.1 0 3).toInt ≤ 12 := hI.1 0 3
    refine ok_le (fun h1 => ?_) (fun h1 => ?_)
    · have : (0 : Int32).toInt = 0 := by decide
      refine ok_lt (fun h2 => ?_) (fun h2 => ?_)
      · have := i32_rng x4
        exact sX12_harm_121 k21 σ x1 x3 x4 hI (by omega) (by omega) (by omega) (by omega) (by omega) (by omega) (by omega) (fun y0 y1 y2 y3 q0 q1 q2 q3 q4 q5 q6 q7 q8 q9 => hk21 y0 y1 y2 y3 q0 q1 q2 q3 q4 q5 q6 q7 q8 (by omega))
      · have : (-1) ≤ (σ.1 0 36).toInt ∧ (σ.1 0 36).toInt ≤ 2147483647 := hI.1 0 36
        have := i32_rng x4
        refine ok_le (fun h3 => ?_) (fun h3 => ?_)
        · exact sX12_harm_129 k21 σ x1 x2 x3 hI (by omega) (by omega) (by omega) (by omega) (by omega) (by omega) (by omega) (by omega) (fun y0 y1 y2 y3 q0 q1 q2 q3 q4 q5 q6 q7 q8 q9 => hk21 y0 y1 y2 y3 q0 q1 q2 q3 q4 q5 q6 q7 q8 (by omega))
        · exact sX12_harm_121 k21 σ x1 x3 x4 hI (by omega) (by omega) (by omega) (by omega) (by omega) (by omega) (by omega) (fun y0 y1 y2 y3 q0 q1 q2 q3 q4 q5 q6 q7 q8 q9 => hk21 y0 y1 y2 y3 q0 q1 q2 q3 q4 q5 q6 q7 q8 (by omega))
    · have : (10 : Int32).toInt = 10 := by decide
      refine ok_bi (sX12_isIn σ 10 x5 hI (by omega) (by omega) (by omega) (by omega)) (fun r4 hr4 => ?_)
      obtain ⟨p5, p6, p7⟩ := hr4
      have p5 : 0 ≤ r4.toInt := p5
      have p6 : r4.toInt ≤ 1 := p6
      have p7 : IiM σ (10 : Int32) x5 r4 := p7
      have : (0 : Int32).toInt = 0 := by decide
      refine ok_eq (fun h8 => ?_) (fun h8 => ?_)
      · have := i32_rng x4
        exact sX12_harm_84 (fX12_harm_52 k21 n) σ x1 x2 x3 x4 x5 0 hI (by omega) (by omega) (by omega) (by omega) (by omega) (by omega) (by omega) (by omega) (by omega) (by omega) (by omega) (fun y0 y1 y2 y3 y4 y5 q0 q1 q2 q3 q4 q5 q6 q7 q8 q9 q10 q11 q12 q13 => ih y0 y1 y2 y3 y4 y5 q0 q1 q2 q3 q4 q5 q6 q7 q8 q9 q10 q11 (by omega) (fun z0 z1 z2 z3 w0 w1 w2 w3 w4 w5 w6 w7 w8 w9 => hk21 z0 z1 z2 z3 w0 w1 w2 w3 w4 w5 w6 w7 w8 (by omega)))
      · have : 0 ≤ (σ.1 0 9).toInt ∧ (σ.1 0 9).toInt ≤ 10 := hI.1 0 9
        refine ok_bs (sX12_shareOf (σ.1 0 9).toInt σ 10 x5 hI (by omega) (by omega) (by omega) (by omega) (by omega) (by omega)) (fun r6 σ7 hr9 => ?_)
        obtain ⟨p10, p11⟩ := hr9
        have p10 : IvM g σ7 := p10
        have p11 : (σ7.1 0 9).toInt = (σ.1 0 9).toInt := p11
        have := i32_rng x4
        have := i32_rng r6
        exact sX12_harm_84 (fX12_harm_52 k21 n) σ7 x1 x2 x3 x4 x5 r6 p10 (by omega) (by omega) (by omega) (by omega) (by omega) (by omega) (by omega) (by omega) (by omega) (by omega) (by omega) (fun y0 y1 y2 y3 y4 y5 q0 q1 q2 q3 q4 q5 q6 q7 q8 q9 q10 q11 q12 q13 => ih y0 y1 y2 y3 y4 y5 q0 q1 q2 q3 q4 q5 q6 q7 q8 q9 q10 q11 (by omega) (fun z0 z1 z2 z3 w0 w1 w2 w3 w4 w5 w6 w7 w8 w9 => hk21 z0 z1 z2 z3 w0 w1 w2 w3 w4 w5 w6 w7 w8 (by omega)))

theorem sX12_harm_21 {g : Nat} : ∀ (n : Nat) (σ : S2) (x1 : Int32) (x2 : Int32) (x3 : Int32), IvM g σ → 0 ≤ x1.toInt → x1.toInt ≤ 9 → (-1) ≤ x2.toInt → x2.toInt ≤ 5 → 0 ≤ x3.toInt → x3.toInt ≤ 6 → g = 0 → x1.toInt < (σ.1 0 9).toInt → 6 - x3.toInt < (n : Int) → Ok (fun z => IvM g z.2 ∧ (-1) ≤ z.1.toInt ∧ z.1.toInt ≤ 5) (fX12_harm_21 n σ x1 x2 x3) := by
  have hFU : ((FU : Nat) : Int) = 100000 := rfl
  intro n
  induction n with
  | zero => intro σ x1 x2 x3 hI p9000 p9001 p9002 p9003 p9004 p9005 p9006 p9007 hm; exfalso; omega
  | succ n ih =>
    intro σ x1 x2 x3 hI p9000 p9001 p9002 p9003 p9004 p9005 p9006 p9007 hm
    unfold fX12_harm_21
    have : 0 ≤ (σ.1 0 34).toInt ∧ (σ.1 0 34).toInt ≤ 6 := hI.1 0 34
    refine ok_le (fun h1 => ?_) (fun h1 => ?_)
    · have : (0 : Int32).toInt = 0 := by decide
      refine ok_nm (fun σ9 hs2 => ?_)
      have hI3 : IvM g σ9 := by rw [hs2]; exact IvM.wI hI rfl (show 0 ≤ (0 : Int32).toInt by omega) (show (0 : Int32).toInt ≤ 6 by omega)
      have : (σ9.1 0 9).toInt = (σ.1 0 9).toInt := by rw [hs2]; rfl
      have : (σ9.1 0 34).toInt = (0 : Int32).toInt := by rw [hs2]; rfl
      exact ok_some ⟨hI3, by show (-1) ≤ x2.toInt; omega, by show x2.toInt ≤ 5; omega⟩
    · refine ok_ck (by omega) (by omega) ?_
      have : 0 ≤ (σ.1 8 (Int32.toNatClampNeg x1)).toInt ∧ (σ.1 8 (Int32.toNatClampNeg x1)).toInt ≤ 4095 := hI.1 8 (Int32.toNatClampNeg x1)
      refine ok_nmI (fun v10 hv10 he4 => ?_)
      refine ok_ck (by omega) (by omega) ?_
      have := i32_rng (σ.1 28 (Int32.toNatClampNeg x3))
      refine ok_nmI (fun v11 hv11 he5 => ?_)
      have : SsM σ v10 := by rw [hv10]; exact ss_of hI (by omega) (by omega)
      have := i32_rng v11
      have : 0 ≤ (σ.1 0 9).toInt ∧ (σ.1 0 9).toInt ≤ 10 := hI.1 0 9
      refine ok_bs (sX12_tries (σ.1 0 9).toInt σ x1 v10 v11 hI (by omega) (by omega) (by omega) (by omega) (by omega) (by omega) (by first | assumption | exact KeM.rf _)) (fun r12 σ13 hr6 => ?_)
      obtain ⟨p7, p8, p9⟩ := hr6
      have p7 : IvM g σ13 := p7
      have p8 : (σ13.1 0 9).toInt = (σ.1 0 9).toInt := p8
      have p9 : FaM σ13 (Int32.toNatClampNeg 10) := p9
      have : (0 : Int32).toInt = 0 := by decide
      exact sX12_harm_52 (fX12_harm_21 n) FU σ13 x1 x2 x3 0 0 p7 (by omega) (by omega) (by omega) (by omega) (by omega) (by omega) (by omega) (by omega) (by omega) (by omega) (by omega) (by omega) (fun y0 y1 y2 y3 q0 q1 q2 q3 q4 q5 q6 q7 q8 q9 => ih y0 y1 y2 y3 q0 q1 q2 q3 q4 q5 q6 q7 q8 (by omega))

theorem sX12_harm_0 {g : Nat} (σ : S2) (x1 : Int32) (hI : IvM g σ) (p9000 : g = 0)  : Ok (fun z => IvM g z.2 ∧ (-1) ≤ z.1.toInt ∧ z.1.toInt ≤ 5) (fX12_harm_0 σ x1) := by
  have hFU : ((FU : Nat) : Int) = 100000 := rfl
  unfold fX12_harm_0
  have := i32_rng x1
  refine ok_bi (sX12_isTable σ x1 hI) (fun r15 hr1 => ?_)
  obtain ⟨p2, p3, p4⟩ := hr1
  have p2 : 0 ≤ r15.toInt := p2
  have p3 : r15.toInt ≤ 1 := p3
  have p4 : r15.toInt ≠ 0 → 0 ≤ x1.toInt ∧ x1.toInt < (σ.1 0 9).toInt := p4
  have : 0 ≤ (σ.1 0 9).toInt ∧ (σ.1 0 9).toInt ≤ 10 := hI.1 0 9
  have : (0 : Int32).toInt = 0 := by decide
  refine ok_eq (fun h5 => ?_) (fun h5 => ?_)
  · have : ((-1) : Int32).toInt = (-1) := by decide
    exact ok_some ⟨hI, by show (-1) ≤ ((-1) : Int32).toInt; omega, by show ((-1) : Int32).toInt ≤ 5; omega⟩
  · have : 0 ≤ (σ.1 0 34).toInt ∧ (σ.1 0 34).toInt ≤ 6 := hI.1 0 34
    refine ok_eq (fun h6 => ?_) (fun h6 => ?_)
    · have : ((-1) : Int32).toInt = (-1) := by decide
      exact ok_some ⟨hI, by show (-1) ≤ ((-1) : Int32).toInt; omega, by show ((-1) : Int32).toInt ≤ 5; omega⟩
    · have : ((-1) : Int32).toInt = (-1) := by decide
      exact sX12_harm_21 FU σ x1 (-1) 0 hI (by omega) (by omega) (by omega) (by omega) (by omega) (by omega) (by omega) (by omega) (by omega)

theorem sX12_harm {g : Nat} (σ : S2) (a1 : Int32) (hI : IvM g σ) (p9000 : g = 0)  : Ok (fun z => IvM g z.2 ∧ (-1) ≤ z.1.toInt ∧ z.1.toInt ≤ 5) (fX12_harm σ a1) := by
  unfold fX12_harm
  exact sX12_harm_0 σ a1 hI (by assumption)

theorem sX12_harmed_0 {g : Nat} (σ : S2) (hI : IvM g σ)   : Ok (fun z => (-1) ≤ z.toInt) (fX12_harmed_0 σ) := by
  have hFU : ((FU : Nat) : Int) = 100000 := rfl
  unfold fX12_harmed_0
  have : (-1) ≤ (σ.1 0 36).toInt ∧ (σ.1 0 36).toInt ≤ 2147483647 := hI.1 0 36
  exact ok_some (by show (-1) ≤ (σ.1 0 36).toInt; omega)

theorem sX12_harmed {g : Nat} (σ : S2) (hI : IvM g σ)   : Ok (fun z => (-1) ≤ z.toInt) (fX12_harmed σ) := by
  unfold fX12_harmed
  exact sX12_harmed_0 σ hI

theorem sX12_begins_19 {g : Nat} (c0 : Int) (σ : S2) (hI : IvM g σ) (p9000 : (σ.1 0 38).toInt = c0) (p9001 : (σ.1 0 38).toInt ≤ 900)  : Ok (fun z => IvM g z.2 ∧ (z.2.1 0 38).toInt = c0 + 1) (fX12_begins_19 σ) := by
  have hFU : ((FU : Nat) : Int) = 100000 := rfl
  unfold fX12_begins_19
  have : 0 ≤ (σ.1 0 38).toInt ∧ (σ.1 0 38).toInt ≤ 1000 := hI.1 0 38
  have : (1 : Int32).toInt = 1 := by decide
  have : (((σ.1 0 38) + 1) : Int32).toInt = ((σ.1 0 38) : Int32).toInt + (1 : Int32).toInt := i32_add (by omega) (by omega)
  refine ok_nm (fun σ1 hs1 => ?_)
  have hI2 : IvM g σ1 := by rw [hs1]; exact IvM.wI hI rfl (show 0 ≤ (((σ.1 0 38) + 1) : Int32).toInt by omega) (show (((σ.1 0 38) + 1) : Int32).toInt ≤ 1000 by omega)
  have : (σ1.1 0 38).toInt = (((σ.1 0 38) + 1) : Int32).toInt := by rw [hs1]; rfl
  exact ok_some ⟨hI2, by show (σ1.1 0 38).toInt = c0 + 1; omega⟩

theorem sX12_begins_0 {g : Nat} (c0 : Int) (σ : S2) (x1 : Int32) (hI : IvM g σ) (p9000 : 1 ≤ x1.toInt) (p9001 : x1.toInt ≤ 71) (p9002 : (σ.1 0 38).toInt = c0) (p9003 : (σ.1 0 38).toInt ≤ 900)  : Ok (fun z => IvM g z.2 ∧ (z.2.1 0 38).toInt = c0 + 1) (fX12_begins_0 σ x1) := by
  have hFU : ((FU : Nat) : Int) = 100000 := rfl
  unfold fX12_begins_0
  have : (24 : Int32).toInt = 24 := by decide
  have : 0 ≤ (σ.1 0 38).toInt ∧ (σ.1 0 38).toInt ≤ 1000 := hI.1 0 38
  refine ok_le (fun h1 => ?_) (fun h1 => ?_)
  · exact sX12_begins_19 c0 σ hI (by omega) (by omega)
  · refine ok_ck (by omega) (by omega) ?_
    refine ok_nm (fun σ2 hs2 => ?_)
    have hI3 : IvM g σ2 := by rw [hs2]; exact IvM.wI hI rfl (show 0 ≤ (x1 : Int32).toInt by omega) (show (x1 : Int32).toInt ≤ 71 by omega)
    have : (σ2.1 0 38).toInt = (σ.1 0 38).toInt := by rw [hs2]; rfl
    have : 0 ≤ (σ2.1 0 38).toInt ∧ (σ2.1 0 38).toInt ≤ 1000 := hI3.1 0 38
    exact sX12_begins_19 c0 σ2 hI3 (by omega) (by omega)

theorem sX12_begins {g : Nat} (c0 : Int) (σ : S2) (a1 : Int32) (hI : IvM g σ) (p9000 : 1 ≤ a1.toInt) (p9001 : a1.toInt ≤ 71) (p9002 : (σ.1 0 38).toInt = c0) (p9003 : (σ.1 0 38).toInt ≤ 900)  : Ok (fun z => IvM g z.2 ∧ (z.2.1 0 38).toInt = c0 + 1) (fX12_begins σ a1) := by
  unfold fX12_begins
  exact sX12_begins_0 c0 σ a1 hI (by assumption) (by assumption) (by assumption) (by assumption)

theorem sX12_aboveOf_0 {g : Nat} (σ : S2) (x0 : Int32) (hI : IvM g σ) (p9000 : 1 ≤ x0.toInt) (p9001 : x0.toInt ≤ 6)  : Ok (fun z => 0 ≤ z.toInt ∧ z.toInt ≤ 1 ∧ (x0.toInt = 6 → z.toInt = 1) ∧ (x0.toInt ≠ 6 → z.toInt = 0)) (fX12_aboveOf_0 σ x0) := by
  have hFU : ((FU : Nat) : Int) = 100000 := rfl
  unfold fX12_aboveOf_0
  have : (6 : Int32).toInt = 6 := by decide
  refine ok_eq (fun h1 => ?_) (fun h1 => ?_)
  · have : (1 : Int32).toInt = 1 := by decide
    exact ok_some ⟨by show 0 ≤ (1 : Int32).toInt; omega, by show (1 : Int32).toInt ≤ 1; omega, by show x0.toInt = 6 → (1 : Int32).toInt = 1; omega, by show x0.toInt ≠ 6 → (1 : Int32).toInt = 0; omega⟩
  · have : (0 : Int32).toInt = 0 := by decide
    exact ok_some ⟨by show 0 ≤ (0 : Int32).toInt; omega, by show (0 : Int32).toInt ≤ 1; omega, by show x0.toInt = 6 → (0 : Int32).toInt = 1; omega, by show x0.toInt ≠ 6 → (0 : Int32).toInt = 0; omega⟩

theorem sX12_aboveOf {g : Nat} (σ : S2) (a0 : Int32) (hI : IvM g σ) (p9000 : 1 ≤ a0.toInt) (p9001 : a0.toInt ≤ 6)  : Ok (fun z => 0 ≤ z.toInt ∧ z.toInt ≤ 1 ∧ (a0.toInt = 6 → z.toInt = 1) ∧ (a0.toInt ≠ 6 → z.toInt = 0)) (fX12_aboveOf σ a0) := by
  unfold fX12_aboveOf
  exact sX12_aboveOf_0 σ a0 hI (by assumption) (by assumption)

theorem sX12_findsFrom_0 {g : Nat} (r : Int) (qX12_findsFrom : S2 → Int32 → Int32 → Int32 → Option (Int32 × S2)) (hqX12_findsFrom : ∀ (σ : S2) (a1 : Int32) (a2 : Int32) (a3 : Int32), IvM g σ → 0 ≤ a1.toInt → a1.toInt ≤ 11 → 0 ≤ a2.toInt → a2.toInt ≤ 6 → 0 ≤ (r - 1) → (r - 1) ≤ 2 → (a2.toInt = 0 ∨ 1 ≤ (r - 1)) → (a2.toInt ≤ 5 ∨ 2 ≤ (r - 1)) → (σ.1 0 38).toInt + (r - 1) ≤ 502 → Ok (fun z => IvM g z.2 ∧ (z.2.1 0 38).toInt ≤ (σ.1 0 38).toInt + 1 * ((r - 1) + 1)) (qX12_findsFrom σ a1 a2 a3)) (σ : S2) (x1 : Int32) (x2 : Int32) (x3 : Int32) (hI : IvM g σ) (p9000 : 0 ≤ x1.toInt) (p9001 : x1.toInt ≤ 11) (p9002 : 0 ≤ x2.toInt) (p9003 : x2.toInt ≤ 6) (p9004 : 0 ≤ r) (p9005 : r ≤ 2) (p9006 : (x2.toInt = 0 ∨ 1 ≤ r)) (p9007 : (x2.toInt ≤ 5 ∨ 2 ≤ r)) (p9008 : (σ.1 0 38).toInt + r ≤ 502)  : Ok (fun z => IvM g z.2 ∧ (z.2.1 0 38).toInt ≤ (σ.1 0 38).toInt + 1 * (r + 1)) (fX12_findsFrom_0 qX12_findsFrom σ x1 x2 x3) := by
  have hFU : ((FU : Nat) : Int) = 100000 := rfl
  unfold fX12_findsFrom_0
  have : (0 : Int32).toInt = 0 := by decide
  refine ok_eq (fun h1 => ?_) (fun h1 => ?_)
  · have : (1 : Int32).toInt = 1 := by decide
    have : 0 ≤ (σ.1 0 38).toInt ∧ (σ.1 0 38).toInt ≤ 1000 := hI.1 0 38
    refine ok_bs (sX12_begins (σ.1 0 38).toInt σ 1 hI (by omega) (by omega) (by omega) (by omega)) (fun r2 σ3 hr2 => ?_)
    obtain ⟨p3, p4⟩ := hr2
    have p3 : IvM g σ3 := p3
    have p4 : (σ3.1 0 38).toInt = (σ.1 0 38).toInt + 1 := p4
    have := i32_rng x3
    have := i32_rng (x3 + x1)
    exact ok_some ⟨p3, by show (σ3.1 0 38).toInt ≤ (σ.1 0 38).toInt + 1 * (r + 1); omega⟩
  · have : (1 : Int32).toInt = 1 := by decide
    refine ok_eq (fun h5 => ?_) (fun h5 => ?_)
    · have : (20 : Int32).toInt = 20 := by decide
      have : 0 ≤ (σ.1 0 38).toInt ∧ (σ.1 0 38).toInt ≤ 1000 := hI.1 0 38
      refine ok_bs (sX12_begins (σ.1 0 38).toInt σ 20 hI (by omega) (by omega) (by omega) (by omega)) (fun r6 σ7 hr6 => ?_)
      obtain ⟨p7, p8⟩ := hr6
      have p7 : IvM g σ7 := p7
      have p8 : (σ7.1 0 38).toInt = (σ.1 0 38).toInt + 1 := p8
      have := i32_rng x3
      refine ok_bs (hqX12_findsFrom σ7 x1 0 x3 p7 (by omega) (by omega) (by omega) (by omega) (by omega) (by omega) (by omega) (by omega) (by omega)) (fun r9 σ10 hr9 => ?_)
      obtain ⟨p10, p11⟩ := hr9
      have p10 : IvM g σ10 := p10
      have p11 : (σ10.1 0 38).toInt ≤ (σ7.1 0 38).toInt + 1 * ((r - 1) + 1) := p11
      refine ok_ck (by omega) (by omega) ?_
      have : 0 ≤ (σ10.1 4 (Int32.toNatClampNeg x1)).toInt ∧ (σ10.1 4 (Int32.toNatClampNeg x1)).toInt ≤ 8 := p10.1 4 (Int32.toNatClampNeg x1)
      refine ok_nmI (fun v12 hv12 he12 => ?_)
      have := i32_rng r9
      have := i32_rng (r9 + v12)
      exact ok_some ⟨p10, by show (σ10.1 0 38).toInt ≤ (σ.1 0 38).toInt + 1 * (r + 1); omega⟩
    · have : (2 : Int32).toInt = 2 := by decide
      refine ok_eq (fun h13 => ?_) (fun h13 => ?_)
      · refine ok_bi (sX12_aboveOf σ x2 hI (by omega) (by omega)) (fun r14 hr14 => ?_)
        obtain ⟨p15, p16, p17, p18⟩ := hr14
        have p15 : 0 ≤ r14.toInt := p15
        have p16 : r14.toInt ≤ 1 := p16
        have p17 : x2.toInt = 6 → r14.toInt = 1 := p17
        have p18 : x2.toInt ≠ 6 → r14.toInt = 0 := p18
        have := i32_rng x3
        refine ok_bs (hqX12_findsFrom σ x1 r14 x3 hI (by omega) (by omega) (by omega) (by omega) (by omega) (by omega) (by omega) (by omega) (by omega)) (fun r16 σ17 hr19 => ?_)
        obtain ⟨p20, p21⟩ := hr19
        have p20 : IvM g σ17 := p20
        have p21 : (σ17.1 0 38).toInt ≤ (σ.1 0 38).toInt + 1 * ((r - 1) + 1) := p21
        have := i32_rng r16
        exact ok_some ⟨p20, by show (σ17.1 0 38).toInt ≤ (σ.1 0 38).toInt + 1 * (r + 1); omega⟩
      · have : (3 : Int32).toInt = 3 := by decide
        refine ok_eq (fun h22 => ?_) (fun h22 => ?_)
        · refine ok_bi (sX12_aboveOf σ x2 hI (by omega) (by omega)) (fun r20 hr23 => ?_)
          obtain ⟨p24, p25, p26, p27⟩ := hr23
          have p24 : 0 ≤ r20.toInt := p24
          have p25 : r20.toInt ≤ 1 := p25
          have p26 : x2.toInt = 6 → r20.toInt = 1 := p26
          have p27 : x2.toInt ≠ 6 → r20.toInt = 0 := p27
          have := i32_rng x3
          refine ok_bs (hqX12_findsFrom σ x1 r20 x3 hI (by omega) (by omega) (by omega) (by omega) (by omega) (by omega) (by omega) (by omega) (by omega)) (fun r22 σ23 hr28 => ?_)
          obtain ⟨p29, p30⟩ := hr28
          have p29 : IvM g σ23 := p29
          have p30 : (σ23.1 0 38).toInt ≤ (σ.1 0 38).toInt + 1 * ((r - 1) + 1) := p30
          have := i32_rng r22
          exact ok_some ⟨p29, by show (σ23.1 0 38).toInt ≤ (σ.1 0 38).toInt + 1 * (r + 1); omega⟩
        · have : (4 : Int32).toInt = 4 := by decide
          refine ok_eq (fun h31 => ?_) (fun h31 => ?_)
          · refine ok_bi (sX12_aboveOf σ x2 hI (by omega) (by omega)) (fun r26 hr32 => ?_)
            obtain ⟨p33, p34, p35, p36⟩ := hr32
            have p33 : 0 ≤ r26.toInt := p33
            have p34 : r26.toInt ≤ 1 := p34
            have p35 : x2.toInt = 6 → r26.toInt = 1 := p35
            have p36 : x2.toInt ≠ 6 → r26.toInt = 0 := p36
            have := i32_rng x3
            refine ok_bs (hqX12_findsFrom σ x1 r26 x3 hI (by omega) (by omega) (by omega) (by omega) (by omega) (by omega) (by omega) (by omega) (by omega)) (fun r28 σ29 hr37 => ?_)
            obtain ⟨p38, p39⟩ := hr37
            have p38 : IvM g σ29 := p38
            have p39 : (σ29.1 0 38).toInt ≤ (σ.1 0 38).toInt + 1 * ((r - 1) + 1) := p39
            have := i32_rng r28
            exact ok_some ⟨p38, by show (σ29.1 0 38).toInt ≤ (σ.1 0 38).toInt + 1 * (r + 1); omega⟩
          · have : (5 : Int32).toInt = 5 := by decide
            refine ok_eq (fun h40 => ?_) (fun h40 => ?_)
            · have : (60 : Int32).toInt = 60 := by decide
              have : 0 ≤ (σ.1 0 38).toInt ∧ (σ.1 0 38).toInt ≤ 1000 := hI.1 0 38
              refine ok_bs (sX12_begins (σ.1 0 38).toInt σ 60 hI (by omega) (by omega) (by omega) (by omega)) (fun r32 σ33 hr41 => ?_)
              obtain ⟨p42, p43⟩ := hr41
              have p42 : IvM g σ33 := p42
              have p43 : (σ33.1 0 38).toInt = (σ.1 0 38).toInt + 1 := p43
              have := i32_rng x3
              have := i32_rng (x3 + 1)
              refine ok_bs (hqX12_findsFrom σ33 x1 0 (x3 + 1) p42 (by omega) (by omega) (by omega) (by omega) (by omega) (by omega) (by omega) (by omega) (by omega)) (fun r35 σ36 hr44 => ?_)
              obtain ⟨p45, p46⟩ := hr44
              have p45 : IvM g σ36 := p45
              have p46 : (σ36.1 0 38).toInt ≤ (σ33.1 0 38).toInt + 1 * ((r - 1) + 1) := p46
              have := i32_rng r35
              exact ok_some ⟨p45, by show (σ36.1 0 38).toInt ≤ (σ.1 0 38).toInt + 1 * (r + 1); omega⟩
            · have : (6 : Int32).toInt = 6 := by decide
              refine ok_eq (fun h47 => ?_) (fun h47 => ?_)
              · have : (71 : Int32).toInt = 71 := by decide
                have : 0 ≤ (σ.1 0 38).toInt ∧ (σ.1 0 38).toInt ≤ 1000 := hI.1 0 38
                refine ok_bs (sX12_begins (σ.1 0 38).toInt σ 71 hI (by omega) (by omega) (by omega) (by omega)) (fun r39 σ40 hr48 => ?_)
                obtain ⟨p49, p50⟩ := hr48
                have p49 : IvM g σ40 := p49
                have p50 : (σ40.1 0 38).toInt = (σ.1 0 38).toInt + 1 := p50
                have := i32_rng x3
                refine ok_bs (hqX12_findsFrom σ40 x1 1 x3 p49 (by omega) (by omega) (by omega) (by omega) (by omega) (by omega) (by omega) (by omega) (by omega)) (fun r42 σ43 hr51 => ?_)
                obtain ⟨p52, p53⟩ := hr51
                have p52 : IvM g σ43 := p52
                have p53 : (σ43.1 0 38).toInt ≤ (σ40.1 0 38).toInt + 1 * ((r - 1) + 1) := p53
                have := i32_rng r42
                have := i32_rng (r42 * 2)
                exact ok_some ⟨p52, by show (σ43.1 0 38).toInt ≤ (σ.1 0 38).toInt + 1 * (r + 1); omega⟩
              · exfalso; omega

theorem sGX12_findsFrom {g : Nat} : ∀ d : Nat, (∀ (r : Int) (σ : S2) (a1 : Int32) (a2 : Int32) (a3 : Int32), r < (d : Int) → IvM g σ → 0 ≤ a1.toInt → a1.toInt ≤ 11 → 0 ≤ a2.toInt → a2.toInt ≤ 6 → 0 ≤ r → r ≤ 2 → (a2.toInt = 0 ∨ 1 ≤ r) → (a2.toInt ≤ 5 ∨ 2 ≤ r) → (σ.1 0 38).toInt + r ≤ 502 → Ok (fun z => IvM g z.2 ∧ (z.2.1 0 38).toInt ≤ (σ.1 0 38).toInt + 1 * (r + 1)) (GX12_findsFrom d 0 σ a1 a2 a3)) := by
  intro d
  induction d with
  | zero => exact (fun r σ a1 a2 a3 hd hI p0 p1 p2 p3 p4 p5 p6 p7 p8 => by exfalso; omega)
  | succ d ih =>
    exact (fun r σ a1 a2 a3 hd hI p0 p1 p2 p3 p4 p5 p6 p7 p8 => sX12_findsFrom_0  r (GX12_findsFrom d 0) (fun σ a1 a2 a3 hI p0 p1 p2 p3 p4 p5 p6 p7 p8 => ih (r - 1) σ a1 a2 a3 (by omega) hI p0 p1 p2 p3 p4 p5 p6 p7 p8) σ a1 a2 a3 hI p0 p1 p2 p3 p4 p5 p6 p7 p8)
theorem sX12_findsFrom {g : Nat}  (σ : S2) (a1 : Int32) (a2 : Int32) (a3 : Int32) (hI : IvM g σ) (p9000 : 0 ≤ a1.toInt) (p9001 : a1.toInt ≤ 11) (p9002 : 0 ≤ a2.toInt) (p9003 : a2.toInt ≤ 6) (p9004 : (σ.1 0 38).toInt ≤ 500) : Ok (fun z => IvM g z.2 ∧ (z.2.1 0 38).toInt ≤ (σ.1 0 38).toInt + 1 * (2 + 1)) (fX12_findsFrom σ a1 a2 a3) := by
  exact (sGX12_findsFrom 24) 2  σ a1 a2 a3 (by decide) hI p9000 p9001 p9002 p9003 (by omega) (by omega) (by omega) (by omega) (by omega)

theorem sX12_movesFrom_0 {g : Nat} (r : Int) (qX12_movesFrom : S2 → Int32 → Int32 → Int32 → Option (Int32 × S2)) (hqX12_movesFrom : ∀ (σ : S2) (a1 : Int32) (a2 : Int32) (a3 : Int32), IvM g σ → 0 ≤ a1.toInt → a1.toInt ≤ 11 → 0 ≤ a2.toInt → a2.toInt ≤ 6 → 0 ≤ (r - 1) → (r - 1) ≤ 2 → (a2.toInt = 0 ∨ 1 ≤ (r - 1)) → (a2.toInt ≤ 5 ∨ 2 ≤ (r - 1)) → (σ.1 0 38).toInt + (r - 1) ≤ 402 → Ok (fun z => IvM g z.2 ∧ (z.2.1 0 38).toInt ≤ (σ.1 0 38).toInt + 5 * ((r - 1) + 1)) (qX12_movesFrom σ a1 a2 a3)) (σ : S2) (x1 : Int32) (x2 : Int32) (x3 : Int32) (hI : IvM g σ) (p9000 : 0 ≤ x1.toInt) (p9001 : x1.toInt ≤ 11) (p9002 : 0 ≤ x2.toInt) (p9003 : x2.toInt ≤ 6) (p9004 : 0 ≤ r) (p9005 : r ≤ 2) (p9006 : (x2.toInt = 0 ∨ 1 ≤ r)) (p9007 : (x2.toInt ≤ 5 ∨ 2 ≤ r)) (p9008 : (σ.1 0 38).toInt + r ≤ 402)  : Ok (fun z => IvM g z.2 ∧ (z.2.1 0 38).toInt ≤ (σ.1 0 38).toInt + 5 * (r + 1)) (fX12_movesFrom_0 qX12_movesFrom σ x1 x2 x3) := by
  have hFU : ((FU : Nat) : Int) = 100000 := rfl
  unfold fX12_movesFrom_0
  have : (0 : Int32).toInt = 0 := by decide
  refine ok_eq (fun h1 => ?_) (fun h1 => ?_)
  · have : (11 : Int32).toInt = 11 := by decide
    have : 0 ≤ (σ.1 0 38).toInt ∧ (σ.1 0 38).toInt ≤ 1000 := hI.1 0 38
    refine ok_bs (sX12_begins (σ.1 0 38).toInt σ 11 hI (by omega) (by omega) (by omega) (by omega)) (fun r2 σ3 hr2 => ?_)
    obtain ⟨p3, p4⟩ := hr2
    have p3 : IvM g σ3 := p3
    have p4 : (σ3.1 0 38).toInt = (σ.1 0 38).toInt + 1 := p4
    have := i32_rng x3
    have := i32_rng (x3 ^^^ x1)
    exact ok_some ⟨p3, by show (σ3.1 0 38).toInt ≤ (σ.1 0 38).toInt + 5 * (r + 1); omega⟩
  · have : (2 : Int32).toInt = 2 := by decide
    refine ok_eq (fun h5 => ?_) (fun h5 => ?_)
    · have : (30 : Int32).toInt = 30 := by decide
      have : 0 ≤ (σ.1 0 38).toInt ∧ (σ.1 0 38).toInt ≤ 1000 := hI.1 0 38
      refine ok_bs (sX12_begins (σ.1 0 38).toInt σ 30 hI (by omega) (by omega) (by omega) (by omega)) (fun r6 σ7 hr6 => ?_)
      obtain ⟨p7, p8⟩ := hr6
      have p7 : IvM g σ7 := p7
      have p8 : (σ7.1 0 38).toInt = (σ.1 0 38).toInt + 1 := p8
      have := i32_rng x3
      refine ok_bs (hqX12_movesFrom σ7 x1 0 x3 p7 (by omega) (by omega) (by omega) (by omega) (by omega) (by omega) (by omega) (by omega) (by omega)) (fun r9 σ10 hr9 => ?_)
      obtain ⟨p10, p11⟩ := hr9
      have p10 : IvM g σ10 := p10
      have p11 : (σ10.1 0 38).toInt ≤ (σ7.1 0 38).toInt + 5 * ((r - 1) + 1) := p11
      have := i32_rng r9
      have : (3 : Int32).toInt = 3 := by decide
      have := i32_rng (r9 * 3)
      exact ok_some ⟨p10, by show (σ10.1 0 38).toInt ≤ (σ.1 0 38).toInt + 5 * (r + 1); omega⟩
    · have : (5 : Int32).toInt = 5 := by decide
      refine ok_eq (fun h12 => ?_) (fun h12 => ?_)
      · have : (61 : Int32).toInt = 61 := by decide
        have : 0 ≤ (σ.1 0 38).toInt ∧ (σ.1 0 38).toInt ≤ 1000 := hI.1 0 38
        refine ok_bs (sX12_begins (σ.1 0 38).toInt σ 61 hI (by omega) (by omega) (by omega) (by omega)) (fun r13 σ14 hr13 => ?_)
        obtain ⟨p14, p15⟩ := hr13
        have p14 : IvM g σ14 := p14
        have p15 : (σ14.1 0 38).toInt = (σ.1 0 38).toInt + 1 := p15
        have := i32_rng x3
        refine ok_bs (hqX12_movesFrom σ14 x1 0 x3 p14 (by omega) (by omega) (by omega) (by omega) (by omega) (by omega) (by omega) (by omega) (by omega)) (fun r16 σ17 hr16 => ?_)
        obtain ⟨p17, p18⟩ := hr16
        have p17 : IvM g σ17 := p17
        have p18 : (σ17.1 0 38).toInt ≤ (σ14.1 0 38).toInt + 5 * ((r - 1) + 1) := p18
        refine ok_ck (by omega) (by omega) ?_
        have : 0 ≤ (σ17.1 5 (Int32.toNatClampNeg x1)).toInt ∧ (σ17.1 5 (Int32.toNatClampNeg x1)).toInt ≤ 6 := p17.1 5 (Int32.toNatClampNeg x1)
        refine ok_nmI (fun v19 hv19 he19 => ?_)
        refine ok_bs (sX12_findsFrom σ17 x1 v19 2 p17 (by omega) (by omega) (by omega) (by omega) (by omega)) (fun r20 σ21 hr20 => ?_)
        obtain ⟨p21, p22⟩ := hr20
        have p21 : IvM g σ21 := p21
        have p22 : (σ21.1 0 38).toInt ≤ (σ17.1 0 38).toInt + 1 * (2 + 1) := p22
        have := i32_rng r16
        have := i32_rng r20
        have := i32_rng (r16 - r20)
        exact ok_some ⟨p21, by show (σ21.1 0 38).toInt ≤ (σ.1 0 38).toInt + 5 * (r + 1); omega⟩
      · refine ok_bi (sX12_aboveOf σ x2 hI (by omega) (by omega)) (fun r23 hr23 => ?_)
        obtain ⟨p24, p25, p26, p27⟩ := hr23
        have p24 : 0 ≤ r23.toInt := p24
        have p25 : r23.toInt ≤ 1 := p25
        have p26 : x2.toInt = 6 → r23.toInt = 1 := p26
        have p27 : x2.toInt ≠ 6 → r23.toInt = 0 := p27
        have := i32_rng x3
        refine ok_bs (hqX12_movesFrom σ x1 r23 x3 hI (by omega) (by omega) (by omega) (by omega) (by omega) (by omega) (by omega) (by omega) (by omega)) (fun r25 σ26 hr28 => ?_)
        obtain ⟨p29, p30⟩ := hr28
        have p29 : IvM g σ26 := p29
        have p30 : (σ26.1 0 38).toInt ≤ (σ.1 0 38).toInt + 5 * ((r - 1) + 1) := p30
        have := i32_rng r25
        exact ok_some ⟨p29, by show (σ26.1 0 38).toInt ≤ (σ.1 0 38).toInt + 5 * (r + 1); omega⟩

theorem sGX12_movesFrom {g : Nat} : ∀ d : Nat, (∀ (r : Int) (σ : S2) (a1 : Int32) (a2 : Int32) (a3 : Int32), r < (d : Int) → IvM g σ → 0 ≤ a1.toInt → a1.toInt ≤ 11 → 0 ≤ a2.toInt → a2.toInt ≤ 6 → 0 ≤ r → r ≤ 2 → (a2.toInt = 0 ∨ 1 ≤ r) → (a2.toInt ≤ 5 ∨ 2 ≤ r) → (σ.1 0 38).toInt + r ≤ 402 → Ok (fun z => IvM g z.2 ∧ (z.2.1 0 38).toInt ≤ (σ.1 0 38).toInt + 5 * (r + 1)) (GX12_movesFrom d 0 σ a1 a2 a3)) := by
  intro d
  induction d with
  | zero => exact (fun r σ a1 a2 a3 hd hI p0 p1 p2 p3 p4 p5 p6 p7 p8 => by exfalso; omega)
  | succ d ih =>
    exact (fun r σ a1 a2 a3 hd hI p0 p1 p2 p3 p4 p5 p6 p7 p8 => sX12_movesFrom_0  r (GX12_movesFrom d 0) (fun σ a1 a2 a3 hI p0 p1 p2 p3 p4 p5 p6 p7 p8 => ih (r - 1) σ a1 a2 a3 (by omega) hI p0 p1 p2 p3 p4 p5 p6 p7 p8) σ a1 a2 a3 hI p0 p1 p2 p3 p4 p5 p6 p7 p8)
theorem sX12_movesFrom {g : Nat}  (σ : S2) (a1 : Int32) (a2 : Int32) (a3 : Int32) (hI : IvM g σ) (p9000 : 0 ≤ a1.toInt) (p9001 : a1.toInt ≤ 11) (p9002 : 0 ≤ a2.toInt) (p9003 : a2.toInt ≤ 6) (p9004 : (σ.1 0 38).toInt ≤ 400) : Ok (fun z => IvM g z.2 ∧ (z.2.1 0 38).toInt ≤ (σ.1 0 38).toInt + 5 * (2 + 1)) (fX12_movesFrom σ a1 a2 a3) := by
  exact (sGX12_movesFrom 24) 2  σ a1 a2 a3 (by decide) hI p9000 p9001 p9002 p9003 (by omega) (by omega) (by omega) (by omega) (by omega)

theorem sX12_keepsFrom_0 {g : Nat} (r : Int) (qX12_keepsFrom : S2 → Int32 → Int32 → Int32 → Option (Int32 × S2)) (hqX12_keepsFrom : ∀ (σ : S2) (a1 : Int32) (a2 : Int32) (a3 : Int32), IvM g σ → 0 ≤ a1.toInt → a1.toInt ≤ 11 → 0 ≤ a2.toInt → a2.toInt ≤ 6 → 0 ≤ (r - 1) → (r - 1) ≤ 2 → (a2.toInt = 0 ∨ 1 ≤ (r - 1)) → (a2.toInt ≤ 5 ∨ 2 ≤ (r - 1)) → (σ.1 0 38).toInt + (r - 1) ≤ 302 → Ok (fun z => IvM g z.2 ∧ (z.2.1 0 38).toInt ≤ (σ.1 0 38).toInt + 16 * ((r - 1) + 1)) (qX12_keepsFrom σ a1 a2 a3)) (σ : S2) (x1 : Int32) (x2 : Int32) (x3 : Int32) (hI : IvM g σ) (p9000 : 0 ≤ x1.toInt) (p9001 : x1.toInt ≤ 11) (p9002 : 0 ≤ x2.toInt) (p9003 : x2.toInt ≤ 6) (p9004 : 0 ≤ r) (p9005 : r ≤ 2) (p9006 : (x2.toInt = 0 ∨ 1 ≤ r)) (p9007 : (x2.toInt ≤ 5 ∨ 2 ≤ r)) (p9008 : (σ.1 0 38).toInt + r ≤ 302)  : Ok (fun z => IvM g z.2 ∧ (z.2.1 0 38).toInt ≤ (σ.1 0 38).toInt + 16 * (r + 1)) (fX12_keepsFrom_0 qX12_keepsFrom σ x1 x2 x3) := by
  have hFU : ((FU : Nat) : Int) = 100000 := rfl
  unfold fX12_keepsFrom_0
  have : (0 : Int32).toInt = 0 := by decide
  refine ok_eq (fun h1 => ?_) (fun h1 => ?_)
  · have : (10 : Int32).toInt = 10 := by decide
    have : 0 ≤ (σ.1 0 38).toInt ∧ (σ.1 0 38).toInt ≤ 1000 := hI.1 0 38
    refine ok_bs (sX12_begins (σ.1 0 38).toInt σ 10 hI (by omega) (by omega) (by omega) (by omega)) (fun r2 σ3 hr2 => ?_)
    obtain ⟨p3, p4⟩ := hr2
    have p3 : IvM g σ3 := p3
    have p4 : (σ3.1 0 38).toInt = (σ.1 0 38).toInt + 1 := p4
    refine ok_ck (by omega) (by omega) ?_
    have : 0 ≤ (σ3.1 5 (Int32.toNatClampNeg x1)).toInt ∧ (σ3.1 5 (Int32.toNatClampNeg x1)).toInt ≤ 6 := p3.1 5 (Int32.toNatClampNeg x1)
    refine ok_nmI (fun v5 hv5 he5 => ?_)
    have := i32_rng x3
    refine ok_bs (sX12_findsFrom σ3 x1 v5 x3 p3 (by omega) (by omega) (by omega) (by omega) (by omega)) (fun r6 σ7 hr6 => ?_)
    obtain ⟨p7, p8⟩ := hr6
    have p7 : IvM g σ7 := p7
    have p8 : (σ7.1 0 38).toInt ≤ (σ3.1 0 38).toInt + 1 * (2 + 1) := p8
    have := i32_rng r6
    have : (2 : Int32).toInt = 2 := by decide
    have := i32_rng (r6 * 2)
    exact ok_some ⟨p7, by show (σ7.1 0 38).toInt ≤ (σ.1 0 38).toInt + 16 * (r + 1); omega⟩
  · have : (3 : Int32).toInt = 3 := by decide
    refine ok_eq (fun h9 => ?_) (fun h9 => ?_)
    · have : (40 : Int32).toInt = 40 := by decide
      have : 0 ≤ (σ.1 0 38).toInt ∧ (σ.1 0 38).toInt ≤ 1000 := hI.1 0 38
      refine ok_bs (sX12_begins (σ.1 0 38).toInt σ 40 hI (by omega) (by omega) (by omega) (by omega)) (fun r10 σ11 hr10 => ?_)
      obtain ⟨p11, p12⟩ := hr10
      have p11 : IvM g σ11 := p11
      have p12 : (σ11.1 0 38).toInt = (σ.1 0 38).toInt + 1 := p12
      have := i32_rng x3
      refine ok_bs (hqX12_keepsFrom σ11 x1 0 x3 p11 (by omega) (by omega) (by omega) (by omega) (by omega) (by omega) (by omega) (by omega) (by omega)) (fun r13 σ14 hr13 => ?_)
      obtain ⟨p14, p15⟩ := hr13
      have p14 : IvM g σ14 := p14
      have p15 : (σ14.1 0 38).toInt ≤ (σ11.1 0 38).toInt + 16 * ((r - 1) + 1) := p15
      have := i32_rng r13
      have := i32_rng (-r13)
      exact ok_some ⟨p14, by show (σ14.1 0 38).toInt ≤ (σ.1 0 38).toInt + 16 * (r + 1); omega⟩
    · have : (6 : Int32).toInt = 6 := by decide
      refine ok_eq (fun h16 => ?_) (fun h16 => ?_)
      · have : (70 : Int32).toInt = 70 := by decide
        have : 0 ≤ (σ.1 0 38).toInt ∧ (σ.1 0 38).toInt ≤ 1000 := hI.1 0 38
        refine ok_bs (sX12_begins (σ.1 0 38).toInt σ 70 hI (by omega) (by omega) (by omega) (by omega)) (fun r17 σ18 hr17 => ?_)
        obtain ⟨p18, p19⟩ := hr17
        have p18 : IvM g σ18 := p18
        have p19 : (σ18.1 0 38).toInt = (σ.1 0 38).toInt + 1 := p19
        have : (1 : Int32).toInt = 1 := by decide
        have := i32_rng x3
        refine ok_bs (hqX12_keepsFrom σ18 x1 1 x3 p18 (by omega) (by omega) (by omega) (by omega) (by omega) (by omega) (by omega) (by omega) (by omega)) (fun r20 σ21 hr20 => ?_)
        obtain ⟨p21, p22⟩ := hr20
        have p21 : IvM g σ21 := p21
        have p22 : (σ21.1 0 38).toInt ≤ (σ18.1 0 38).toInt + 16 * ((r - 1) + 1) := p22
        refine ok_bs (sX12_movesFrom σ21 x1 1 x3 p21 (by omega) (by omega) (by omega) (by omega) (by omega)) (fun r23 σ24 hr23 => ?_)
        obtain ⟨p24, p25⟩ := hr23
        have p24 : IvM g σ24 := p24
        have p25 : (σ24.1 0 38).toInt ≤ (σ21.1 0 38).toInt + 5 * (2 + 1) := p25
        have := i32_rng r20
        have := i32_rng r23
        have := i32_rng (r20 + r23)
        exact ok_some ⟨p24, by show (σ24.1 0 38).toInt ≤ (σ.1 0 38).toInt + 16 * (r + 1); omega⟩
      · refine ok_bi (sX12_aboveOf σ x2 hI (by omega) (by omega)) (fun r26 hr26 => ?_)
        obtain ⟨p27, p28, p29, p30⟩ := hr26
        have p27 : 0 ≤ r26.toInt := p27
        have p28 : r26.toInt ≤ 1 := p28
        have p29 : x2.toInt = 6 → r26.toInt = 1 := p29
        have p30 : x2.toInt ≠ 6 → r26.toInt = 0 := p30
        have := i32_rng x3
        refine ok_bs (hqX12_keepsFrom σ x1 r26 x3 hI (by omega) (by omega) (by omega) (by omega) (by omega) (by omega) (by omega) (by omega) (by omega)) (fun r28 σ29 hr31 => ?_)
        obtain ⟨p32, p33⟩ := hr31
        have p32 : IvM g σ29 := p32
        have p33 : (σ29.1 0 38).toInt ≤ (σ.1 0 38).toInt + 16 * ((r - 1) + 1) := p33
        have := i32_rng r28
        exact ok_some ⟨p32, by show (σ29.1 0 38).toInt ≤ (σ.1 0 38).toInt + 16 * (r + 1); omega⟩

theorem sGX12_keepsFrom {g : Nat} : ∀ d : Nat, (∀ (r : Int) (σ : S2) (a1 : Int32) (a2 : Int32) (a3 : Int32), r < (d : Int) → IvM g σ → 0 ≤ a1.toInt → a1.toInt ≤ 11 → 0 ≤ a2.toInt → a2.toInt ≤ 6 → 0 ≤ r → r ≤ 2 → (a2.toInt = 0 ∨ 1 ≤ r) → (a2.toInt ≤ 5 ∨ 2 ≤ r) → (σ.1 0 38).toInt + r ≤ 302 → Ok (fun z => IvM g z.2 ∧ (z.2.1 0 38).toInt ≤ (σ.1 0 38).toInt + 16 * (r + 1)) (GX12_keepsFrom d 0 σ a1 a2 a3)) := by
  intro d
  induction d with
  | zero => exact (fun r σ a1 a2 a3 hd hI p0 p1 p2 p3 p4 p5 p6 p7 p8 => by exfalso; omega)
  | succ d ih =>
    exact (fun r σ a1 a2 a3 hd hI p0 p1 p2 p3 p4 p5 p6 p7 p8 => sX12_keepsFrom_0  r (GX12_keepsFrom d 0) (fun σ a1 a2 a3 hI p0 p1 p2 p3 p4 p5 p6 p7 p8 => ih (r - 1) σ a1 a2 a3 (by omega) hI p0 p1 p2 p3 p4 p5 p6 p7 p8) σ a1 a2 a3 hI p0 p1 p2 p3 p4 p5 p6 p7 p8)
theorem sX12_keepsFrom {g : Nat}  (σ : S2) (a1 : Int32) (a2 : Int32) (a3 : Int32) (hI : IvM g σ) (p9000 : 0 ≤ a1.toInt) (p9001 : a1.toInt ≤ 11) (p9002 : 0 ≤ a2.toInt) (p9003 : a2.toInt ≤ 6) (p9004 : (σ.1 0 38).toInt ≤ 300) : Ok (fun z => IvM g z.2 ∧ (z.2.1 0 38).toInt ≤ (σ.1 0 38).toInt + 16 * (2 + 1)) (fX12_keepsFrom σ a1 a2 a3) := by
  exact (sGX12_keepsFrom 24) 2  σ a1 a2 a3 (by decide) hI p9000 p9001 p9002 p9003 (by omega) (by omega) (by omega) (by omega) (by omega)

theorem sX12_tellsFrom_0 {g : Nat} (r : Int) (qX12_tellsFrom : S2 → Int32 → Int32 → Int32 → Option (Int32 × S2)) (hqX12_tellsFrom : ∀ (σ : S2) (a1 : Int32) (a2 : Int32) (a3 : Int32), IvM g σ → 0 ≤ a1.toInt → a1.toInt ≤ 11 → 0 ≤ a2.toInt → a2.toInt ≤ 6 → 0 ≤ (r - 1) → (r - 1) ≤ 2 → (a2.toInt = 0 ∨ 1 ≤ (r - 1)) → (a2.toInt ≤ 5 ∨ 2 ≤ (r - 1)) → (σ.1 0 38).toInt + (r - 1) ≤ 202 → Ok (fun z => IvM g z.2 ∧ (z.2.1 0 38).toInt ≤ (σ.1 0 38).toInt + 64 * ((r - 1) + 1)) (qX12_tellsFrom σ a1 a2 a3)) (σ : S2) (x1 : Int32) (x2 : Int32) (x3 : Int32) (hI : IvM g σ) (p9000 : 0 ≤ x1.toInt) (p9001 : x1.toInt ≤ 11) (p9002 : 0 ≤ x2.toInt) (p9003 : x2.toInt ≤ 6) (p9004 : 0 ≤ r) (p9005 : r ≤ 2) (p9006 : (x2.toInt = 0 ∨ 1 ≤ r)) (p9007 : (x2.toInt ≤ 5 ∨ 2 ≤ r)) (p9008 : (σ.1 0 38).toInt + r ≤ 202)  : Ok (fun z => IvM g z.2 ∧ (z.2.1 0 38).toInt ≤ (σ.1 0 38).toInt + 64 * (r + 1)) (fX12_tellsFrom_0 qX12_tellsFrom σ x1 x2 x3) := by
  have hFU : ((FU : Nat) : Int) = 100000 := rfl
  unfold fX12_tellsFrom_0
  have : (0 : Int32).toInt = 0 := by decide
  refine ok_eq (fun h1 => ?_) (fun h1 => ?_)
  · have : (2 : Int32).toInt = 2 := by decide
    have : 0 ≤ (σ.1 0 38).toInt ∧ (σ.1 0 38).toInt ≤ 1000 := hI.1 0 38
    refine ok_bs (sX12_begins (σ.1 0 38).toInt σ 2 hI (by omega) (by omega) (by omega) (by omega)) (fun r2 σ3 hr2 => ?_)
    obtain ⟨p3, p4⟩ := hr2
    have p3 : IvM g σ3 := p3
    have p4 : (σ3.1 0 38).toInt = (σ.1 0 38).toInt + 1 := p4
    refine ok_ck (by omega) (by omega) ?_
    have : 0 ≤ (σ3.1 5 (Int32.toNatClampNeg x1)).toInt ∧ (σ3.1 5 (Int32.toNatClampNeg x1)).toInt ≤ 6 := p3.1 5 (Int32.toNatClampNeg x1)
    refine ok_nmI (fun v5 hv5 he5 => ?_)
    have := i32_rng x3
    refine ok_bs (sX12_keepsFrom σ3 x1 v5 x3 p3 (by omega) (by omega) (by omega) (by omega) (by omega)) (fun r6 σ7 hr6 => ?_)
    obtain ⟨p7, p8⟩ := hr6
    have p7 : IvM g σ7 := p7
    have p8 : (σ7.1 0 38).toInt ≤ (σ3.1 0 38).toInt + 16 * (2 + 1) := p8
    refine ok_ck (by omega) (by omega) ?_
    have : 0 ≤ (σ7.1 5 (Int32.toNatClampNeg x1)).toInt ∧ (σ7.1 5 (Int32.toNatClampNeg x1)).toInt ≤ 6 := p7.1 5 (Int32.toNatClampNeg x1)
    refine ok_nmI (fun v9 hv9 he9 => ?_)
    have : (1 : Int32).toInt = 1 := by decide
    refine ok_bs (sX12_movesFrom σ7 x1 v9 1 p7 (by omega) (by omega) (by omega) (by omega) (by omega)) (fun r10 σ11 hr10 => ?_)
    obtain ⟨p11, p12⟩ := hr10
    have p11 : IvM g σ11 := p11
    have p12 : (σ11.1 0 38).toInt ≤ (σ7.1 0 38).toInt + 5 * (2 + 1) := p12
    have := i32_rng r6
    have := i32_rng r10
    have := i32_rng (r6 - r10)
    exact ok_some ⟨p11, by show (σ11.1 0 38).toInt ≤ (σ.1 0 38).toInt + 64 * (r + 1); omega⟩
  · have : (4 : Int32).toInt = 4 := by decide
    refine ok_eq (fun h13 => ?_) (fun h13 => ?_)
    · have : (50 : Int32).toInt = 50 := by decide
      have : 0 ≤ (σ.1 0 38).toInt ∧ (σ.1 0 38).toInt ≤ 1000 := hI.1 0 38
      refine ok_bs (sX12_begins (σ.1 0 38).toInt σ 50 hI (by omega) (by omega) (by omega) (by omega)) (fun r14 σ15 hr14 => ?_)
      obtain ⟨p15, p16⟩ := hr14
      have p15 : IvM g σ15 := p15
      have p16 : (σ15.1 0 38).toInt = (σ.1 0 38).toInt + 1 := p16
      have := i32_rng x3
      refine ok_bs (hqX12_tellsFrom σ15 x1 0 x3 p15 (by omega) (by omega) (by omega) (by omega) (by omega) (by omega) (by omega) (by omega) (by omega)) (fun r17 σ18 hr17 => ?_)
      obtain ⟨p18, p19⟩ := hr17
      have p18 : IvM g σ18 := p18
      have p19 : (σ18.1 0 38).toInt ≤ (σ15.1 0 38).toInt + 64 * ((r - 1) + 1) := p19
      have := i32_rng r17
      have : (9 : Int32).toInt = 9 := by decide
      have := i32_rng (r17 ^^^ 9)
      exact ok_some ⟨p18, by show (σ18.1 0 38).toInt ≤ (σ.1 0 38).toInt + 64 * (r + 1); omega⟩
    · refine ok_bi (sX12_aboveOf σ x2 hI (by omega) (by omega)) (fun r20 hr20 => ?_)
      obtain ⟨p21, p22, p23, p24⟩ := hr20
      have p21 : 0 ≤ r20.toInt := p21
      have p22 : r20.toInt ≤ 1 := p22
      have p23 : x2.toInt = 6 → r20.toInt = 1 := p23
      have p24 : x2.toInt ≠ 6 → r20.toInt = 0 := p24
      have := i32_rng x3
      refine ok_bs (hqX12_tellsFrom σ x1 r20 x3 hI (by omega) (by omega) (by omega) (by omega) (by omega) (by omega) (by omega) (by omega) (by omega)) (fun r22 σ23 hr25 => ?_)
      obtain ⟨p26, p27⟩ := hr25
      have p26 : IvM g σ23 := p26
      have p27 : (σ23.1 0 38).toInt ≤ (σ.1 0 38).toInt + 64 * ((r - 1) + 1) := p27
      have := i32_rng r22
      exact ok_some ⟨p26, by show (σ23.1 0 38).toInt ≤ (σ.1 0 38).toInt + 64 * (r + 1); omega⟩

theorem sGX12_tellsFrom {g : Nat} : ∀ d : Nat, (∀ (r : Int) (σ : S2) (a1 : Int32) (a2 : Int32) (a3 : Int32), r < (d : Int) → IvM g σ → 0 ≤ a1.toInt → a1.toInt ≤ 11 → 0 ≤ a2.toInt → a2.toInt ≤ 6 → 0 ≤ r → r ≤ 2 → (a2.toInt = 0 ∨ 1 ≤ r) → (a2.toInt ≤ 5 ∨ 2 ≤ r) → (σ.1 0 38).toInt + r ≤ 202 → Ok (fun z => IvM g z.2 ∧ (z.2.1 0 38).toInt ≤ (σ.1 0 38).toInt + 64 * (r + 1)) (GX12_tellsFrom d 0 σ a1 a2 a3)) := by
  intro d
  induction d with
  | zero => exact (fun r σ a1 a2 a3 hd hI p0 p1 p2 p3 p4 p5 p6 p7 p8 => by exfalso; omega)
  | succ d ih =>
    exact (fun r σ a1 a2 a3 hd hI p0 p1 p2 p3 p4 p5 p6 p7 p8 => sX12_tellsFrom_0  r (GX12_tellsFrom d 0) (fun σ a1 a2 a3 hI p0 p1 p2 p3 p4 p5 p6 p7 p8 => ih (r - 1) σ a1 a2 a3 (by omega) hI p0 p1 p2 p3 p4 p5 p6 p7 p8) σ a1 a2 a3 hI p0 p1 p2 p3 p4 p5 p6 p7 p8)
theorem sX12_tellsFrom {g : Nat}  (σ : S2) (a1 : Int32) (a2 : Int32) (a3 : Int32) (hI : IvM g σ) (p9000 : 0 ≤ a1.toInt) (p9001 : a1.toInt ≤ 11) (p9002 : 0 ≤ a2.toInt) (p9003 : a2.toInt ≤ 6) (p9004 : (σ.1 0 38).toInt ≤ 200) : Ok (fun z => IvM g z.2 ∧ (z.2.1 0 38).toInt ≤ (σ.1 0 38).toInt + 64 * (2 + 1)) (fX12_tellsFrom σ a1 a2 a3) := by
  exact (sGX12_tellsFrom 24) 2  σ a1 a2 a3 (by decide) hI p9000 p9001 p9002 p9003 (by omega) (by omega) (by omega) (by omega) (by omega)

theorem sX12_act_0 {g : Nat} (σ : S2) (x1 : Int32) (x2 : Int32) (x3 : Int32) (hI : IvM g σ)   : Ok (fun z => IvM g z.2) (fX12_act_0 σ x1 x2 x3) := by
  have hFU : ((FU : Nat) : Int) = 100000 := rfl
  unfold fX12_act_0
  have : (0 : Int32).toInt = 0 := by decide
  refine ok_nm (fun σ1 hs1 => ?_)
  have hI2 : IvM g σ1 := by rw [hs1]; exact IvM.wI hI rfl (show 0 ≤ (0 : Int32).toInt by omega) (show (0 : Int32).toInt ≤ 1000 by omega)
  have : (σ1.1 0 38).toInt = (0 : Int32).toInt := by rw [hs1]; rfl
  have := i32_rng x1
  refine ok_bi (sX12_isKeeper σ1 x1 hI2) (fun r2 hr3 => ?_)
  obtain ⟨p4, p5, p6⟩ := hr3
  have p4 : 0 ≤ r2.toInt := p4
  have p5 : r2.toInt ≤ 1 := p5
  have p6 : r2.toInt ≠ 0 → 0 ≤ x1.toInt ∧ x1.toInt < (σ1.1 0 3).toInt := p6
  have : 0 ≤ (σ1.1 0 3).toInt ∧ (σ1.1 0 3).toInt ≤ 12 := hI2.1 0 3
  refine ok_eq (fun h7 => ?_) (fun h7 => ?_)
  · exact ok_some hI2
  · have := i32_rng x2
    have : (3 : Int32).toInt = 3 := by decide
    refine ok_bi (sX12_in σ1 x2 0 3 hI2 (by omega) (by omega) (by omega) (by omega)) (fun r4 hr8 => ?_)
    obtain ⟨p9, p10, p11⟩ := hr8
    have p9 : 0 ≤ r4.toInt := p9
    have p10 : r4.toInt ≤ 1 := p10
    have p11 : r4.toInt ≠ 0 → (0 : Int32).toInt ≤ x2.toInt ∧ x2.toInt ≤ (3 : Int32).toInt := p11
    refine ok_eq (fun h12 => ?_) (fun h12 => ?_)
    · exact ok_some hI2
    · refine ok_ck (by omega) (by omega) ?_
      have : 0 ≤ (σ1.1 5 (Int32.toNatClampNeg x1)).toInt ∧ (σ1.1 5 (Int32.toNatClampNeg x1)).toInt ≤ 6 := hI2.1 5 (Int32.toNatClampNeg x1)
      refine ok_nmI (fun v6 hv6 he13 => ?_)
      refine ok_eq (fun h14 => ?_) (fun h14 => ?_)
      · have := i32_rng x3
        refine ok_bs (sX12_findsFrom σ1 x1 v6 x3 hI2 (by omega) (by omega) (by omega) (by omega) (by omega)) (fun r16 σ17 hr15 => ?_)
        obtain ⟨p16, p17⟩ := hr15
        have p16 : IvM g σ17 := p16
        have p17 : (σ17.1 0 38).toInt ≤ (σ1.1 0 38).toInt + 1 * (2 + 1) := p17
        have := i32_rng r16
        exact ok_some p16
      · have : (1 : Int32).toInt = 1 := by decide
        refine ok_eq (fun h18 => ?_) (fun h18 => ?_)
        · have := i32_rng x3
          refine ok_bs (sX12_keepsFrom σ1 x1 v6 x3 hI2 (by omega) (by omega) (by omega) (by omega) (by omega)) (fun r13 σ14 hr19 => ?_)
          obtain ⟨p20, p21⟩ := hr19
          have p20 : IvM g σ14 := p20
          have p21 : (σ14.1 0 38).toInt ≤ (σ1.1 0 38).toInt + 16 * (2 + 1) := p21
          have := i32_rng r13
          exact ok_some p20
        · have : (2 : Int32).toInt = 2 := by decide
          refine ok_eq (fun h22 => ?_) (fun h22 => ?_)
          · have := i32_rng x3
            refine ok_bs (sX12_movesFrom σ1 x1 v6 x3 hI2 (by omega) (by omega) (by omega) (by omega) (by omega)) (fun r10 σ11 hr23 => ?_)
            obtain ⟨p24, p25⟩ := hr23
            have p24 : IvM g σ11 := p24
            have p25 : (σ11.1 0 38).toInt ≤ (σ1.1 0 38).toInt + 5 * (2 + 1) := p25
            have := i32_rng r10
            exact ok_some p24
          · have := i32_rng x3
            refine ok_bs (sX12_tellsFrom σ1 x1 v6 x3 hI2 (by omega) (by omega) (by omega) (by omega) (by omega)) (fun r7 σ8 hr26 => ?_)
            obtain ⟨p27, p28⟩ := hr26
            have p27 : IvM g σ8 := p27
            have p28 : (σ8.1 0 38).toInt ≤ (σ1.1 0 38).toInt + 64 * (2 + 1) := p28
            have := i32_rng r7
            exact ok_some p27

theorem sX12_act {g : Nat} (σ : S2) (a1 : Int32) (a2 : Int32) (a3 : Int32) (hI : IvM g σ)   : Ok (fun z => IvM g z.2) (fX12_act σ a1 a2 a3) := by
  unfold fX12_act
  exact sX12_act_0 σ a1 a2 a3 hI

theorem sX12_trace_0 {g : Nat} (σ : S2) (x1 : Int32) (hI : IvM g σ)   : Ok (fun z => (-1) ≤ z.toInt ∧ z.toInt ≤ 71) (fX12_trace_0 σ x1) := by
  have hFU : ((FU : Nat) : Int) = 100000 := rfl
  unfold fX12_trace_0
  have := i32_rng x1
  have : (0 : Int32).toInt = 0 := by decide
  refine ok_lt (fun h1 => ?_) (fun h1 => ?_)
  · have : ((-1) : Int32).toInt = (-1) := by decide
    exact ok_some ⟨by show (-1) ≤ ((-1) : Int32).toInt; omega, by show ((-1) : Int32).toInt ≤ 71; omega⟩
  · have : 0 ≤ (σ.1 0 38).toInt ∧ (σ.1 0 38).toInt ≤ 1000 := hI.1 0 38
    refine ok_le (fun h2 => ?_) (fun h2 => ?_)
    · have : ((-1) : Int32).toInt = (-1) := by decide
      exact ok_some ⟨by show (-1) ≤ ((-1) : Int32).toInt; omega, by show ((-1) : Int32).toInt ≤ 71; omega⟩
    · have : (24 : Int32).toInt = 24 := by decide
      refine ok_le (fun h3 => ?_) (fun h3 => ?_)
      · have : ((-1) : Int32).toInt = (-1) := by decide
        exact ok_some ⟨by show (-1) ≤ ((-1) : Int32).toInt; omega, by show ((-1) : Int32).toInt ≤ 71; omega⟩
      · refine ok_ck (by omega) (by omega) ?_
        have : 0 ≤ (σ.1 29 (Int32.toNatClampNeg x1)).toInt ∧ (σ.1 29 (Int32.toNatClampNeg x1)).toInt ≤ 71 := hI.1 29 (Int32.toNatClampNeg x1)
        refine ok_nmI (fun v1 hv1 he4 => ?_)
        exact ok_some ⟨by show (-1) ≤ v1.toInt; omega, by show v1.toInt ≤ 71; omega⟩

theorem sX12_trace {g : Nat} (σ : S2) (a1 : Int32) (hI : IvM g σ)   : Ok (fun z => (-1) ≤ z.toInt ∧ z.toInt ≤ 71) (fX12_trace σ a1) := by
  unfold fX12_trace
  exact sX12_trace_0 σ a1 hI

theorem sX12_isShelf_0 {g : Nat} (σ : S2) (x0 : Int32) (hI : IvM g σ)   : Ok (fun z => 0 ≤ z.toInt ∧ z.toInt ≤ 1 ∧ (z.toInt ≠ 0 → 0 ≤ x0.toInt ∧ x0.toInt ≤ 5)) (fX12_isShelf_0 σ x0) := by
  have hFU : ((FU : Nat) : Int) = 100000 := rfl
  unfold fX12_isShelf_0
  have := i32_rng x0
  have : (0 : Int32).toInt = 0 := by decide
  have : (5 : Int32).toInt = 5 := by decide
  refine ok_bi (sX12_in σ x0 0 5 hI (by omega) (by omega) (by omega) (by omega)) (fun r1 hr1 => ?_)
  obtain ⟨p2, p3, p4⟩ := hr1
  have p2 : 0 ≤ r1.toInt := p2
  have p3 : r1.toInt ≤ 1 := p3
  have p4 : r1.toInt ≠ 0 → (0 : Int32).toInt ≤ x0.toInt ∧ x0.toInt ≤ (5 : Int32).toInt := p4
  refine ok_zb (by omega) (by omega) ?_
  exact ok_some ⟨by show 0 ≤ r1.toInt; omega, by show r1.toInt ≤ 1; omega, by show r1.toInt ≠ 0 → 0 ≤ x0.toInt ∧ x0.toInt ≤ 5; omega⟩

theorem sX12_isShelf {g : Nat} (σ : S2) (a0 : Int32) (hI : IvM g σ)   : Ok (fun z => 0 ≤ z.toInt ∧ z.toInt ≤ 1 ∧ (z.toInt ≠ 0 → 0 ≤ a0.toInt ∧ a0.toInt ≤ 5)) (fX12_isShelf σ a0) := by
  unfold fX12_isShelf
  exact sX12_isShelf_0 σ a0 hI

theorem sX12_keep_22 {g : Nat} (σ : S2) (x1 : Int32) (x2 : Int32) (hI : IvM g σ) (p9000 : 0 ≤ x1.toInt) (p9001 : x1.toInt ≤ 5) (p9002 : (-1) ≤ x2.toInt) (p9003 : x2.toInt ≤ 11)  : Ok (fun z => IvM g z.2 ∧ (-1) ≤ z.1.toInt ∧ z.1.toInt ≤ 1) (fX12_keep_22 σ x1 x2) := by
  have hFU : ((FU : Nat) : Int) = 100000 := rfl
  unfold fX12_keep_22
  refine ok_ck (by omega) (by omega) ?_
  refine ok_nm (fun σ1 hs1 => ?_)
  have hI2 : IvM g σ1 := by rw [hs1]; exact IvM.wI hI rfl (show (-1) ≤ (x2 : Int32).toInt by omega) (show (x2 : Int32).toInt ≤ 11 by omega)
  refine ok_ck (by omega) (by omega) ?_
  have : ((-1) : Int32).toInt = (-1) := by decide
  refine ok_nm (fun σ2 hs3 => ?_)
  have hI4 : IvM g σ2 := by rw [hs3]; exact IvM.wI hI2 rfl (show (-1) ≤ ((-1) : Int32).toInt by omega) (show ((-1) : Int32).toInt ≤ 4 by omega)
  have : (1 : Int32).toInt = 1 := by decide
  exact ok_some ⟨hI4, by show (-1) ≤ (1 : Int32).toInt; omega, by show (1 : Int32).toInt ≤ 1; omega⟩

theorem sX12_keep_0 {g : Nat} (σ : S2) (x1 : Int32) (x2 : Int32) (hI : IvM g σ)   : Ok (fun z => IvM g z.2 ∧ (-1) ≤ z.1.toInt ∧ z.1.toInt ≤ 1) (fX12_keep_0 σ x1 x2) := by
  have hFU : ((FU : Nat) : Int) = 100000 := rfl
  unfold fX12_keep_0
  have := i32_rng x1
  refine ok_bi (sX12_isShelf σ x1 hI) (fun r3 hr1 => ?_)
  obtain ⟨p2, p3, p4⟩ := hr1
  have p2 : 0 ≤ r3.toInt := p2
  have p3 : r3.toInt ≤ 1 := p3
  have p4 : r3.toInt ≠ 0 → 0 ≤ x1.toInt ∧ x1.toInt ≤ 5 := p4
  have : (0 : Int32).toInt = 0 := by decide
  refine ok_eq (fun h5 => ?_) (fun h5 => ?_)
  · have : ((-1) : Int32).toInt = (-1) := by decide
    exact ok_some ⟨hI, by show (-1) ≤ ((-1) : Int32).toInt; omega, by show ((-1) : Int32).toInt ≤ 1; omega⟩
  · have := i32_rng x2
    have : ((-1) : Int32).toInt = (-1) := by decide
    refine ok_eq (fun h6 => ?_) (fun h6 => ?_)
    · exact sX12_keep_22 σ x1 x2 hI (by omega) (by omega) (by omega) (by omega)
    · refine ok_bi (sX12_isKeeper σ x2 hI) (fun r5 hr7 => ?_)
      obtain ⟨p8, p9, p10⟩ := hr7
      have p8 : 0 ≤ r5.toInt := p8
      have p9 : r5.toInt ≤ 1 := p9
      have p10 : r5.toInt ≠ 0 → 0 ≤ x2.toInt ∧ x2.toInt < (σ.1 0 3).toInt := p10
      have : 0 ≤ (σ.1 0 3).toInt ∧ (σ.1 0 3).toInt ≤ 12 := hI.1 0 3
      refine ok_eq (fun h11 => ?_) (fun h11 => ?_)
      · exact ok_some ⟨hI, by show (-1) ≤ ((-1) : Int32).toInt; omega, by show ((-1) : Int32).toInt ≤ 1; omega⟩
      · exact sX12_keep_22 σ x1 x2 hI (by omega) (by omega) (by omega) (by omega)

theorem sX12_keep {g : Nat} (σ : S2) (a1 : Int32) (a2 : Int32) (hI : IvM g σ)   : Ok (fun z => IvM g z.2 ∧ (-1) ≤ z.1.toInt ∧ z.1.toInt ≤ 1) (fX12_keep σ a1 a2) := by
  unfold fX12_keep
  exact sX12_keep_0 σ a1 a2 hI

theorem sX12_row_55 {g : Nat} : ∀ (n : Nat) (σ : S2) (x1 : Int32) (x4 : Int32), IvM g σ → 0 ≤ x1.toInt → x1.toInt ≤ 5 → 0 ≤ x4.toInt → x4.toInt ≤ 60 → 60 - x4.toInt < (n : Int) → Ok (fun z => IvM g z.2 ∧ (-14) ≤ z.1.toInt ∧ z.1.toInt ≤ 1) (fX12_row_55 n σ x1 x4) := by
  have hFU : ((FU : Nat) : Int) = 100000 := rfl
  intro n
  induction n with
  | zero => intro σ x1 x4 hI p9000 p9001 p9002 p9003 hm; exfalso; omega
  | succ n ih =>
    intro σ x1 x4 hI p9000 p9001 p9002 p9003 hm
    unfold fX12_row_55
    have : (60 : Int32).toInt = 60 := by decide
    refine ok_le (fun h1 => ?_) (fun h1 => ?_)
    · have : (1 : Int32).toInt = 1 := by decide
      exact ok_some ⟨hI, by show (-14) ≤ (1 : Int32).toInt; omega, by show (1 : Int32).toInt ≤ 1; omega⟩
    · have : ((60 * x1) : Int32).toInt = 60 * (x1 : Int32).toInt := i32_mulL (by omega) (by omega) (by omega)
      have : (((60 * x1) + x4) : Int32).toInt = ((60 * x1) : Int32).toInt + (x4 : Int32).toInt := i32_add (by omega) (by omega)
      refine ok_ck (by omega) (by omega) ?_
      refine ok_nm (fun σ1 hs2 => ?_)
      have hI3 : IvM g σ1 := by rw [hs2]; exact IvM.wL hI
      have : (1 : Int32).toInt = 1 := by decide
      have : ((x4 + 1) : Int32).toInt = (x4 : Int32).toInt + (1 : Int32).toInt := i32_add (by omega) (by omega)
      refine ok_nmI (fun v2 hv2 he4 => ?_)
      exact ih σ1 x1 v2 hI3 (by omega) (by omega) (by omega) (by omega) (by omega)

theorem sX12_row_0 {g : Nat} (σ : S2) (x1 : Int32) (x2 : Int32) (x3 : Int32) (hI : IvM g σ)   : Ok (fun z => IvM g z.2 ∧ (-14) ≤ z.1.toInt ∧ z.1.toInt ≤ 1) (fX12_row_0 σ x1 x2 x3) := by
  have hFU : ((FU : Nat) : Int) = 100000 := rfl
  unfold fX12_row_0
  have := i32_rng x1
  refine ok_bi (sX12_isShelf σ x1 hI) (fun r3 hr1 => ?_)
  obtain ⟨p2, p3, p4⟩ := hr1
  have p2 : 0 ≤ r3.toInt := p2
  have p3 : r3.toInt ≤ 1 := p3
  have p4 : r3.toInt ≠ 0 → 0 ≤ x1.toInt ∧ x1.toInt ≤ 5 := p4
  have : (0 : Int32).toInt = 0 := by decide
  refine ok_eq (fun h5 => ?_) (fun h5 => ?_)
  · have : ((-1) : Int32).toInt = (-1) := by decide
    exact ok_some ⟨hI, by show (-14) ≤ ((-1) : Int32).toInt; omega, by show ((-1) : Int32).toInt ≤ 1; omega⟩
  · have := i32_rng x2
    have : (4 : Int32).toInt = 4 := by decide
    refine ok_bi (sX12_in σ x2 0 4 hI (by omega) (by omega) (by omega) (by omega)) (fun r5 hr6 => ?_)
    obtain ⟨p7, p8, p9⟩ := hr6
    have p7 : 0 ≤ r5.toInt := p7
    have p8 : r5.toInt ≤ 1 := p8
    have p9 : r5.toInt ≠ 0 → (0 : Int32).toInt ≤ x2.toInt ∧ x2.toInt ≤ (4 : Int32).toInt := p9
    refine ok_eq (fun h10 => ?_) (fun h10 => ?_)
    · have : ((-1) : Int32).toInt = (-1) := by decide
      exact ok_some ⟨hI, by show (-14) ≤ ((-1) : Int32).toInt; omega, by show ((-1) : Int32).toInt ≤ 1; omega⟩
    · have := i32_rng x3
      have : (60 : Int32).toInt = 60 := by decide
      refine ok_le (fun h11 => ?_) (fun h11 => ?_)
      · refine ok_le (fun h12 => ?_) (fun h12 => ?_)
        · refine ok_ck (by omega) (by omega) ?_
          have : ((-1) : Int32).toInt = (-1) := by decide
          refine ok_nm (fun σ7 hs13 => ?_)
          have hI14 : IvM g σ7 := by rw [hs13]; exact IvM.wI hI rfl (show (-1) ≤ ((-1) : Int32).toInt by omega) (show ((-1) : Int32).toInt ≤ 11 by omega)
          refine ok_ck (by omega) (by omega) ?_
          refine ok_nm (fun σ8 hs15 => ?_)
          have hI16 : IvM g σ8 := by rw [hs15]; exact IvM.wI hI14 rfl (show (-1) ≤ (x2 : Int32).toInt by omega) (show (x2 : Int32).toInt ≤ 4 by omega)
          refine ok_ck (by omega) (by omega) ?_
          refine ok_nm (fun σ9 hs17 => ?_)
          have hI18 : IvM g σ9 := by rw [hs17]; exact IvM.wI hI16 rfl (show 0 ≤ (x3 : Int32).toInt by omega) (show (x3 : Int32).toInt ≤ 60 by omega)
          exact sX12_row_55 FU σ9 x1 0 hI18 (by omega) (by omega) (by omega) (by omega) (by omega)
        · have : ((-14) : Int32).toInt = (-14) := by decide
          exact ok_some ⟨hI, by show (-14) ≤ ((-14) : Int32).toInt; omega, by show ((-14) : Int32).toInt ≤ 1; omega⟩
      · have : ((-1) : Int32).toInt = (-1) := by decide
        exact ok_some ⟨hI, by show (-14) ≤ ((-1) : Int32).toInt; omega, by show ((-1) : Int32).toInt ≤ 1; omega⟩

theorem sX12_row {g : Nat} (σ : S2) (a1 : Int32) (a2 : Int32) (a3 : Int32) (hI : IvM g σ)   : Ok (fun z => IvM g z.2 ∧ (-14) ≤ z.1.toInt ∧ z.1.toInt ≤ 1) (fX12_row σ a1 a2 a3) := by
  unfold fX12_row
  exact sX12_row_0 σ a1 a2 a3 hI

theorem sX12_barred_0 {g : Nat} (σ : S2) (x1 : Int32) (x2 : Int32) (hI : IvM g σ)   : Ok (fun z => (-13) ≤ z.toInt ∧ z.toInt ≤ 0 ∧ (z.toInt = 0 → 0 ≤ x1.toInt ∧ x1.toInt ≤ 5 ∧ 0 ≤ x2.toInt ∧ x2.toInt ≤ 59)) (fX12_barred_0 σ x1 x2) := by
  have hFU : ((FU : Nat) : Int) = 100000 := rfl
  unfold fX12_barred_0
  have := i32_rng x1
  refine ok_bi (sX12_isShelf σ x1 hI) (fun r1 hr1 => ?_)
  obtain ⟨p2, p3, p4⟩ := hr1
  have p2 : 0 ≤ r1.toInt := p2
  have p3 : r1.toInt ≤ 1 := p3
  have p4 : r1.toInt ≠ 0 → 0 ≤ x1.toInt ∧ x1.toInt ≤ 5 := p4
  have : (0 : Int32).toInt = 0 := by decide
  refine ok_eq (fun h5 => ?_) (fun h5 => ?_)
  · have : ((-1) : Int32).toInt = (-1) := by decide
    exact ok_some ⟨by show (-13) ≤ ((-1) : Int32).toInt; omega, by show ((-1) : Int32).toInt ≤ 0; omega, by show ((-1) : Int32).toInt = 0 → 0 ≤ x1.toInt ∧ x1.toInt ≤ 5 ∧ 0 ≤ x2.toInt ∧ x2.toInt ≤ 59; omega⟩
  · refine ok_ck (by omega) (by omega) ?_
    have : (-1) ≤ (σ.1 31 (Int32.toNatClampNeg x1)).toInt ∧ (σ.1 31 (Int32.toNatClampNeg x1)).toInt ≤ 4 := hI.1 31 (Int32.toNatClampNeg x1)
    refine ok_nmI (fun v3 hv3 he6 => ?_)
    refine ok_le (fun h7 => ?_) (fun h7 => ?_)
    · refine ok_ck (by omega) (by omega) ?_
      have : 0 ≤ (σ.1 32 (Int32.toNatClampNeg x1)).toInt ∧ (σ.1 32 (Int32.toNatClampNeg x1)).toInt ≤ 60 := hI.1 32 (Int32.toNatClampNeg x1)
      refine ok_nmI (fun v4 hv4 he8 => ?_)
      have := i32_rng x2
      have : (1 : Int32).toInt = 1 := by decide
      have : ((v4 - 1) : Int32).toInt = (v4 : Int32).toInt - (1 : Int32).toInt := i32_sub (by omega) (by omega)
      refine ok_bi (sX12_in σ x2 0 (v4 - 1) hI (by omega) (by omega) (by omega) (by omega)) (fun r5 hr9 => ?_)
      obtain ⟨p10, p11, p12⟩ := hr9
      have p10 : 0 ≤ r5.toInt := p10
      have p11 : r5.toInt ≤ 1 := p11
      have p12 : r5.toInt ≠ 0 → (0 : Int32).toInt ≤ x2.toInt ∧ x2.toInt ≤ (v4 - 1).toInt := p12
      refine ok_eq (fun h13 => ?_) (fun h13 => ?_)
      · have : ((-13) : Int32).toInt = (-13) := by decide
        exact ok_some ⟨by show (-13) ≤ ((-13) : Int32).toInt; omega, by show ((-13) : Int32).toInt ≤ 0; omega, by show ((-13) : Int32).toInt = 0 → 0 ≤ x1.toInt ∧ x1.toInt ≤ 5 ∧ 0 ≤ x2.toInt ∧ x2.toInt ≤ 59; omega⟩
      · exact ok_some ⟨by show (-13) ≤ (0 : Int32).toInt; omega, by show (0 : Int32).toInt ≤ 0; omega, by show (0 : Int32).toInt = 0 → 0 ≤ x1.toInt ∧ x1.toInt ≤ 5 ∧ 0 ≤ x2.toInt ∧ x2.toInt ≤ 59; omega⟩
    · refine ok_ck (by omega) (by omega) ?_
      have : (-1) ≤ (σ.1 30 (Int32.toNatClampNeg x1)).toInt ∧ (σ.1 30 (Int32.toNatClampNeg x1)).toInt ≤ 11 := hI.1 30 (Int32.toNatClampNeg x1)
      refine ok_nmI (fun v7 hv7 he14 => ?_)
      refine ok_le (fun h15 => ?_) (fun h15 => ?_)
      · have : ((-12) : Int32).toInt = (-12) := by decide
        exact ok_some ⟨by show (-13) ≤ ((-12) : Int32).toInt; omega, by show ((-12) : Int32).toInt ≤ 0; omega, by show ((-12) : Int32).toInt = 0 → 0 ≤ x1.toInt ∧ x1.toInt ≤ 5 ∧ 0 ≤ x2.toInt ∧ x2.toInt ≤ 59; omega⟩
      · have : ((-11) : Int32).toInt = (-11) := by decide
        exact ok_some ⟨by show (-13) ≤ ((-11) : Int32).toInt; omega, by show ((-11) : Int32).toInt ≤ 0; omega, by show ((-11) : Int32).toInt = 0 → 0 ≤ x1.toInt ∧ x1.toInt ≤ 5 ∧ 0 ≤ x2.toInt ∧ x2.toInt ≤ 59; omega⟩

theorem sX12_barred {g : Nat} (σ : S2) (a1 : Int32) (a2 : Int32) (hI : IvM g σ)   : Ok (fun z => (-13) ≤ z.toInt ∧ z.toInt ≤ 0 ∧ (z.toInt = 0 → 0 ≤ a1.toInt ∧ a1.toInt ≤ 5 ∧ 0 ≤ a2.toInt ∧ a2.toInt ≤ 59)) (fX12_barred σ a1 a2) := by
  unfold fX12_barred
  exact sX12_barred_0 σ a1 a2 hI

theorem sX12_put_92 {g : Nat} (σ : S2) (s0 : Int64) (s1 : Int32) (hI : IvM g σ) (p9000 : 0 ≤ s1.toInt) (p9001 : s1.toInt ≤ 359)  : Ok (fun z => IvM g z.2 ∧ (-13) ≤ z.1.toInt ∧ z.1.toInt ≤ 1) (fX12_put_92 σ s0 s1) := by
  have hFU : ((FU : Nat) : Int) = 100000 := rfl
  unfold fX12_put_92
  refine ok_ck (by omega) (by omega) ?_
  refine ok_nm (fun σ1 hs1 => ?_)
  have hI2 : IvM g σ1 := by rw [hs1]; exact IvM.wL hI
  have : (1 : Int32).toInt = 1 := by decide
  exact ok_some ⟨hI2, by show (-13) ≤ (1 : Int32).toInt; omega, by show (1 : Int32).toInt ≤ 1; omega⟩

