theorem sX0_begin_19 (c0 : Int) (τ : Nat) (σ : S2) (hI : IvC 0 τ σ) (p9000 : 0 ≤ (σ.1 35 1).toInt) (p9001 : (σ.1 35 1).toInt ≤ 900) (p9002 : (σ.1 35 1).toInt = c0)  : Ok (fun z => IvC 0 τ z.2 ∧ (z.2.1 35 1).toInt = c0 + 1) (fX0_begin_19 τ σ) := by
  have hFU : ((FU : Nat) : Int) = 100000 := rfl
  unfold fX0_begin_19
  have : 0 ≤ (σ.1 35 1).toInt ∧ (σ.1 35 1).toInt ≤ 1000 := hI.1 35 1
  have : (1 : Int32).toInt = 1 := by decide
  have : (((σ.1 35 1) + 1) : Int32).toInt = ((σ.1 35 1) : Int32).toInt + (1 : Int32).toInt := i32_add (by omega) (by omega)
  refine ok_nm (fun σ1 hs1 => ?_)
  have hI2 : IvC 0 τ σ1 := by rw [hs1]; exact IvC.wF hI (by decide) (by omega) (show 0 ≤ (((σ.1 35 1) + 1) : Int32).toInt by omega) (show (((σ.1 35 1) + 1) : Int32).toInt ≤ 1000 by omega)
  have : (σ1.1 35 1).toInt = (((σ.1 35 1) + 1) : Int32).toInt := by rw [hs1]; rfl
  exact ok_some ⟨hI2, by show (σ1.1 35 1).toInt = c0 + 1; omega⟩

theorem sX0_begin_0 (c0 : Int) (τ : Nat) (σ : S2) (x1 : Int32) (hI : IvC 0 τ σ) (p9000 : 1 ≤ x1.toInt) (p9001 : x1.toInt ≤ 71) (p9002 : 0 ≤ (σ.1 35 1).toInt) (p9003 : (σ.1 35 1).toInt ≤ 900) (p9004 : (σ.1 35 1).toInt = c0)  : Ok (fun z => IvC 0 τ z.2 ∧ (z.2.1 35 1).toInt = c0 + 1) (fX0_begin_0 τ σ x1) := by
  have hFU : ((FU : Nat) : Int) = 100000 := rfl
  unfold fX0_begin_0
  have : (24 : Int32).toInt = 24 := by decide
  have : 0 ≤ (σ.1 35 1).toInt ∧ (σ.1 35 1).toInt ≤ 1000 := hI.1 35 1
  refine ok_le (fun h1 => ?_) (fun h1 => ?_)
  · exact sX0_begin_19 c0 τ σ hI (by omega) (by omega) (by omega)
  · refine ok_ck (by omega) (by omega) ?_
    refine ok_nm (fun σ2 hs2 => ?_)
    have hI3 : IvC 0 τ σ2 := by rw [hs2]; exact IvC.wF hI (by decide) (by omega) (show 0 ≤ (x1 : Int32).toInt by omega) (show (x1 : Int32).toInt ≤ 71 by omega)
    have : (σ2.1 35 1).toInt = (σ.1 35 1).toInt := by rw [hs2]; rfl
    have : 0 ≤ (σ2.1 35 1).toInt ∧ (σ2.1 35 1).toInt ≤ 1000 := hI3.1 35 1
    exact sX0_begin_19 c0 τ σ2 hI3 (by omega) (by omega) (by omega)

theorem sX0_begin (c0 : Int) (τ : Nat) (σ : S2) (a1 : Int32) (hI : IvC 0 τ σ) (p9000 : 1 ≤ a1.toInt) (p9001 : a1.toInt ≤ 71) (p9002 : 0 ≤ (σ.1 35 1).toInt) (p9003 : (σ.1 35 1).toInt ≤ 900) (p9004 : (σ.1 35 1).toInt = c0)  : Ok (fun z => IvC 0 τ z.2 ∧ (z.2.1 35 1).toInt = c0 + 1) (fX0_begin τ σ a1) := by
  unfold fX0_begin
  exact sX0_begin_0 c0 τ σ a1 hI (by assumption) (by assumption) (by assumption) (by assumption) (by assumption)

theorem sX0_findsFrom_0 (r : Int) (τ : Nat) (qX0_findsFrom : S2 → Int32 → Int32 → Option (Int32 × S2)) (hqX0_findsFrom : ∀ (σ : S2) (a1 : Int32) (a2 : Int32), IvC 0 τ σ → 0 ≤ a1.toInt → a1.toInt ≤ 6 → 0 ≤ (r - 1) → (r - 1) ≤ 2 → (a1.toInt = 0 ∨ 1 ≤ (r - 1)) → (a1.toInt ≤ 5 ∨ 2 ≤ (r - 1)) → (σ.1 35 1).toInt + (r - 1) ≤ 502 → Ok (fun z => IvC 0 τ z.2 ∧ (z.2.1 35 1).toInt ≤ (σ.1 35 1).toInt + 1 * ((r - 1) + 1)) (qX0_findsFrom σ a1 a2)) (σ : S2) (x1 : Int32) (x2 : Int32) (hI : IvC 0 τ σ) (p9000 : 0 ≤ x1.toInt) (p9001 : x1.toInt ≤ 6) (p9002 : 0 ≤ r) (p9003 : r ≤ 2) (p9004 : (x1.toInt = 0 ∨ 1 ≤ r)) (p9005 : (x1.toInt ≤ 5 ∨ 2 ≤ r)) (p9006 : (σ.1 35 1).toInt + r ≤ 502)  : Ok (fun z => IvC 0 τ z.2 ∧ (z.2.1 35 1).toInt ≤ (σ.1 35 1).toInt + 1 * (r + 1)) (fX0_findsFrom_0 τ qX0_findsFrom σ x1 x2) := by
  have hFU : ((FU : Nat) : Int) = 100000 := rfl
  unfold fX0_findsFrom_0
  have : (1 : Int32).toInt = 1 := by decide
  refine ok_eq (fun h1 => ?_) (fun h1 => ?_)
  · have : (20 : Int32).toInt = 20 := by decide
    have : 0 ≤ (σ.1 35 1).toInt ∧ (σ.1 35 1).toInt ≤ 1000 := hI.1 35 1
    refine ok_bs (sX0_begin (σ.1 35 1).toInt τ σ 20 hI (by omega) (by omega) (by omega) (by omega) (by omega)) (fun r2 σ3 hr2 => ?_)
    obtain ⟨p3, p4⟩ := hr2
    have p3 : IvC 0 τ σ3 := p3
    have p4 : (σ3.1 35 1).toInt = (σ.1 35 1).toInt + 1 := p4
    have : (0 : Int32).toInt = 0 := by decide
    have := i32_rng x2
    refine ok_bs (hqX0_findsFrom σ3 0 x2 p3 (by omega) (by omega) (by omega) (by omega) (by omega) (by omega) (by omega)) (fun r5 σ6 hr5 => ?_)
    obtain ⟨p6, p7⟩ := hr5
    have p6 : IvC 0 τ σ6 := p6
    have p7 : (σ6.1 35 1).toInt ≤ (σ3.1 35 1).toInt + 1 * ((r - 1) + 1) := p7
    have := i32_rng r5
    have : 0 ≤ (σ6.1 35 4).toInt ∧ (σ6.1 35 4).toInt ≤ 8 := p6.1 35 4
    have := i32_rng (r5 + (σ6.1 35 4))
    exact ok_some ⟨p6, by show (σ6.1 35 1).toInt ≤ (σ.1 35 1).toInt + 1 * (r + 1); omega⟩
  · have : (5 : Int32).toInt = 5 := by decide
    refine ok_eq (fun h8 => ?_) (fun h8 => ?_)
    · have : (60 : Int32).toInt = 60 := by decide
      have : 0 ≤ (σ.1 35 1).toInt ∧ (σ.1 35 1).toInt ≤ 1000 := hI.1 35 1
      refine ok_bs (sX0_begin (σ.1 35 1).toInt τ σ 60 hI (by omega) (by omega) (by omega) (by omega) (by omega)) (fun r9 σ10 hr9 => ?_)
      obtain ⟨p10, p11⟩ := hr9
      have p10 : IvC 0 τ σ10 := p10
      have p11 : (σ10.1 35 1).toInt = (σ.1 35 1).toInt + 1 := p11
      have : (0 : Int32).toInt = 0 := by decide
      have := i32_rng x2
      have := i32_rng (x2 + 1)
      refine ok_bs (hqX0_findsFrom σ10 0 (x2 + 1) p10 (by omega) (by omega) (by omega) (by omega) (by omega) (by omega) (by omega)) (fun r12 σ13 hr12 => ?_)
      obtain ⟨p13, p14⟩ := hr12
      have p13 : IvC 0 τ σ13 := p13
      have p14 : (σ13.1 35 1).toInt ≤ (σ10.1 35 1).toInt + 1 * ((r - 1) + 1) := p14
      have := i32_rng r12
      exact ok_some ⟨p13, by show (σ13.1 35 1).toInt ≤ (σ.1 35 1).toInt + 1 * (r + 1); omega⟩
    · have : (6 : Int32).toInt = 6 := by decide
      refine ok_eq (fun h15 => ?_) (fun h15 => ?_)
      · have : (71 : Int32).toInt = 71 := by decide
        have : 0 ≤ (σ.1 35 1).toInt ∧ (σ.1 35 1).toInt ≤ 1000 := hI.1 35 1
        refine ok_bs (sX0_begin (σ.1 35 1).toInt τ σ 71 hI (by omega) (by omega) (by omega) (by omega) (by omega)) (fun r16 σ17 hr16 => ?_)
        obtain ⟨p17, p18⟩ := hr16
        have p17 : IvC 0 τ σ17 := p17
        have p18 : (σ17.1 35 1).toInt = (σ.1 35 1).toInt + 1 := p18
        have := i32_rng x2
        refine ok_bs (hqX0_findsFrom σ17 1 x2 p17 (by omega) (by omega) (by omega) (by omega) (by omega) (by omega) (by omega)) (fun r19 σ20 hr19 => ?_)
        obtain ⟨p20, p21⟩ := hr19
        have p20 : IvC 0 τ σ20 := p20
        have p21 : (σ20.1 35 1).toInt ≤ (σ17.1 35 1).toInt + 1 * ((r - 1) + 1) := p21
        have := i32_rng r19
        have : (2 : Int32).toInt = 2 := by decide
        have := i32_rng (r19 * 2)
        exact ok_some ⟨p20, by show (σ20.1 35 1).toInt ≤ (σ.1 35 1).toInt + 1 * (r + 1); omega⟩
      · have : 0 ≤ (σ.1 35 1).toInt ∧ (σ.1 35 1).toInt ≤ 1000 := hI.1 35 1
        refine ok_bs (sX0_begin (σ.1 35 1).toInt τ σ 1 hI (by omega) (by omega) (by omega) (by omega) (by omega)) (fun r22 σ23 hr22 => ?_)
        obtain ⟨p23, p24⟩ := hr22
        have p23 : IvC 0 τ σ23 := p23
        have p24 : (σ23.1 35 1).toInt = (σ.1 35 1).toInt + 1 := p24
        have := i32_rng x2
        have : 0 ≤ (σ23.1 35 3).toInt ∧ (σ23.1 35 3).toInt ≤ 11 := p23.1 35 3
        have := i32_rng (x2 + (σ23.1 35 3))
        exact ok_some ⟨p23, by show (σ23.1 35 1).toInt ≤ (σ.1 35 1).toInt + 1 * (r + 1); omega⟩

theorem sGX0_findsFrom (τ : Nat) : ∀ d : Nat, (∀ (r : Int) (σ : S2) (a1 : Int32) (a2 : Int32), r < (d : Int) → IvC 0 τ σ → 0 ≤ a1.toInt → a1.toInt ≤ 6 → 0 ≤ r → r ≤ 2 → (a1.toInt = 0 ∨ 1 ≤ r) → (a1.toInt ≤ 5 ∨ 2 ≤ r) → (σ.1 35 1).toInt + r ≤ 502 → Ok (fun z => IvC 0 τ z.2 ∧ (z.2.1 35 1).toInt ≤ (σ.1 35 1).toInt + 1 * (r + 1)) (GX0_findsFrom τ d 0 σ a1 a2)) := by
  intro d
  induction d with
  | zero => exact (fun r σ a1 a2 hd hI p0 p1 p2 p3 p4 p5 p6 => by exfalso; omega)
  | succ d ih =>
    exact (fun r σ a1 a2 hd hI p0 p1 p2 p3 p4 p5 p6 => sX0_findsFrom_0  r  τ (GX0_findsFrom τ d 0) (fun σ a1 a2 hI p0 p1 p2 p3 p4 p5 p6 => ih (r - 1) σ a1 a2 (by omega) hI p0 p1 p2 p3 p4 p5 p6) σ a1 a2 hI p0 p1 p2 p3 p4 p5 p6)
theorem sX0_findsFrom (τ : Nat)  (σ : S2) (a1 : Int32) (a2 : Int32) (hI : IvC 0 τ σ) (p9000 : 0 ≤ a1.toInt) (p9001 : a1.toInt ≤ 6) (p9002 : (σ.1 35 1).toInt ≤ 500) : Ok (fun z => IvC 0 τ z.2 ∧ (z.2.1 35 1).toInt ≤ (σ.1 35 1).toInt + 1 * (2 + 1)) (fX0_findsFrom τ σ a1 a2) := by
  exact (sGX0_findsFrom τ 24) 2  σ a1 a2 (by decide) hI p9000 p9001 (by omega) (by omega) (by omega) (by omega) (by omega)

theorem sX0_movesFrom_0 (r : Int) (τ : Nat) (qX0_movesFrom : S2 → Int32 → Int32 → Option (Int32 × S2)) (hqX0_movesFrom : ∀ (σ : S2) (a1 : Int32) (a2 : Int32), IvC 0 τ σ → 0 ≤ a1.toInt → a1.toInt ≤ 6 → 0 ≤ (r - 1) → (r - 1) ≤ 2 → (a1.toInt = 0 ∨ 1 ≤ (r - 1)) → (a1.toInt ≤ 5 ∨ 2 ≤ (r - 1)) → (σ.1 35 1).toInt + (r - 1) ≤ 402 → Ok (fun z => IvC 0 τ z.2 ∧ (z.2.1 35 1).toInt ≤ (σ.1 35 1).toInt + 5 * ((r - 1) + 1)) (qX0_movesFrom σ a1 a2)) (σ : S2) (x1 : Int32) (x2 : Int32) (hI : IvC 0 τ σ) (p9000 : 0 ≤ x1.toInt) (p9001 : x1.toInt ≤ 6) (p9002 : 0 ≤ r) (p9003 : r ≤ 2) (p9004 : (x1.toInt = 0 ∨ 1 ≤ r)) (p9005 : (x1.toInt ≤ 5 ∨ 2 ≤ r)) (p9006 : (σ.1 35 1).toInt + r ≤ 402)  : Ok (fun z => IvC 0 τ z.2 ∧ (z.2.1 35 1).toInt ≤ (σ.1 35 1).toInt + 5 * (r + 1)) (fX0_movesFrom_0 τ qX0_movesFrom σ x1 x2) := by
  have hFU : ((FU : Nat) : Int) = 100000 := rfl
  unfold fX0_movesFrom_0
  have : (2 : Int32).toInt = 2 := by decide
  refine ok_eq (fun h1 => ?_) (fun h1 => ?_)
  · have : (30 : Int32).toInt = 30 := by decide
    have : 0 ≤ (σ.1 35 1).toInt ∧ (σ.1 35 1).toInt ≤ 1000 := hI.1 35 1
    refine ok_bs (sX0_begin (σ.1 35 1).toInt τ σ 30 hI (by omega) (by omega) (by omega) (by omega) (by omega)) (fun r2 σ3 hr2 => ?_)
    obtain ⟨p3, p4⟩ := hr2
    have p3 : IvC 0 τ σ3 := p3
    have p4 : (σ3.1 35 1).toInt = (σ.1 35 1).toInt + 1 := p4
    have : (0 : Int32).toInt = 0 := by decide
    have := i32_rng x2
    refine ok_bs (hqX0_movesFrom σ3 0 x2 p3 (by omega) (by omega) (by omega) (by omega) (by omega) (by omega) (by omega)) (fun r5 σ6 hr5 => ?_)
    obtain ⟨p6, p7⟩ := hr5
    have p6 : IvC 0 τ σ6 := p6
    have p7 : (σ6.1 35 1).toInt ≤ (σ3.1 35 1).toInt + 5 * ((r - 1) + 1) := p7
    have := i32_rng r5
    have : (3 : Int32).toInt = 3 := by decide
    have := i32_rng (r5 * 3)
    exact ok_some ⟨p6, by show (σ6.1 35 1).toInt ≤ (σ.1 35 1).toInt + 5 * (r + 1); omega⟩
  · have : (5 : Int32).toInt = 5 := by decide
    refine ok_eq (fun h8 => ?_) (fun h8 => ?_)
    · have : (61 : Int32).toInt = 61 := by decide
      have : 0 ≤ (σ.1 35 1).toInt ∧ (σ.1 35 1).toInt ≤ 1000 := hI.1 35 1
      refine ok_bs (sX0_begin (σ.1 35 1).toInt τ σ 61 hI (by omega) (by omega) (by omega) (by omega) (by omega)) (fun r9 σ10 hr9 => ?_)
      obtain ⟨p10, p11⟩ := hr9
      have p10 : IvC 0 τ σ10 := p10
      have p11 : (σ10.1 35 1).toInt = (σ.1 35 1).toInt + 1 := p11
      have : (0 : Int32).toInt = 0 := by decide
      have := i32_rng x2
      refine ok_bs (hqX0_movesFrom σ10 0 x2 p10 (by omega) (by omega) (by omega) (by omega) (by omega) (by omega) (by omega)) (fun r12 σ13 hr12 => ?_)
      obtain ⟨p13, p14⟩ := hr12
      have p13 : IvC 0 τ σ13 := p13
      have p14 : (σ13.1 35 1).toInt ≤ (σ10.1 35 1).toInt + 5 * ((r - 1) + 1) := p14
      have : 0 ≤ (σ13.1 35 2).toInt ∧ (σ13.1 35 2).toInt ≤ 6 := p13.1 35 2
      refine ok_bs (sX0_findsFrom τ σ13 (σ13.1 35 2) 2 p13 (by omega) (by omega) (by omega)) (fun r15 σ16 hr15 => ?_)
      obtain ⟨p16, p17⟩ := hr15
      have p16 : IvC 0 τ σ16 := p16
      have p17 : (σ16.1 35 1).toInt ≤ (σ13.1 35 1).toInt + 1 * (2 + 1) := p17
      have := i32_rng r12
      have := i32_rng r15
      have := i32_rng (r12 - r15)
      exact ok_some ⟨p16, by show (σ16.1 35 1).toInt ≤ (σ.1 35 1).toInt + 5 * (r + 1); omega⟩
    · have : (11 : Int32).toInt = 11 := by decide
      have : 0 ≤ (σ.1 35 1).toInt ∧ (σ.1 35 1).toInt ≤ 1000 := hI.1 35 1
      refine ok_bs (sX0_begin (σ.1 35 1).toInt τ σ 11 hI (by omega) (by omega) (by omega) (by omega) (by omega)) (fun r18 σ19 hr18 => ?_)
      obtain ⟨p19, p20⟩ := hr18
      have p19 : IvC 0 τ σ19 := p19
      have p20 : (σ19.1 35 1).toInt = (σ.1 35 1).toInt + 1 := p20
      have := i32_rng x2
      have : 0 ≤ (σ19.1 35 3).toInt ∧ (σ19.1 35 3).toInt ≤ 11 := p19.1 35 3
      have := i32_rng (x2 ^^^ (σ19.1 35 3))
      exact ok_some ⟨p19, by show (σ19.1 35 1).toInt ≤ (σ.1 35 1).toInt + 5 * (r + 1); omega⟩

theorem sGX0_movesFrom (τ : Nat) : ∀ d : Nat, (∀ (r : Int) (σ : S2) (a1 : Int32) (a2 : Int32), r < (d : Int) → IvC 0 τ σ → 0 ≤ a1.toInt → a1.toInt ≤ 6 → 0 ≤ r → r ≤ 2 → (a1.toInt = 0 ∨ 1 ≤ r) → (a1.toInt ≤ 5 ∨ 2 ≤ r) → (σ.1 35 1).toInt + r ≤ 402 → Ok (fun z => IvC 0 τ z.2 ∧ (z.2.1 35 1).toInt ≤ (σ.1 35 1).toInt + 5 * (r + 1)) (GX0_movesFrom τ d 0 σ a1 a2)) := by
  intro d
  induction d with
  | zero => exact (fun r σ a1 a2 hd hI p0 p1 p2 p3 p4 p5 p6 => by exfalso; omega)
  | succ d ih =>
    exact (fun r σ a1 a2 hd hI p0 p1 p2 p3 p4 p5 p6 => sX0_movesFrom_0  r  τ (GX0_movesFrom τ d 0) (fun σ a1 a2 hI p0 p1 p2 p3 p4 p5 p6 => ih (r - 1) σ a1 a2 (by omega) hI p0 p1 p2 p3 p4 p5 p6) σ a1 a2 hI p0 p1 p2 p3 p4 p5 p6)
theorem sX0_movesFrom (τ : Nat)  (σ : S2) (a1 : Int32) (a2 : Int32) (hI : IvC 0 τ σ) (p9000 : 0 ≤ a1.toInt) (p9001 : a1.toInt ≤ 6) (p9002 : (σ.1 35 1).toInt ≤ 400) : Ok (fun z => IvC 0 τ z.2 ∧ (z.2.1 35 1).toInt ≤ (σ.1 35 1).toInt + 5 * (2 + 1)) (fX0_movesFrom τ σ a1 a2) := by
  exact (sGX0_movesFrom τ 24) 2  σ a1 a2 (by decide) hI p9000 p9001 (by omega) (by omega) (by omega) (by omega) (by omega)

theorem sX0_keepsFrom_0 (r : Int) (τ : Nat) (qX0_keepsFrom : S2 → Int32 → Int32 → Option (Int32 × S2)) (hqX0_keepsFrom : ∀ (σ : S2) (a1 : Int32) (a2 : Int32), IvC 0 τ σ → 0 ≤ a1.toInt → a1.toInt ≤ 6 → 0 ≤ (r - 1) → (r - 1) ≤ 2 → (a1.toInt = 0 ∨ 1 ≤ (r - 1)) → (a1.toInt ≤ 5 ∨ 2 ≤ (r - 1)) → (σ.1 35 1).toInt + (r - 1) ≤ 302 → Ok (fun z => IvC 0 τ z.2 ∧ (z.2.1 35 1).toInt ≤ (σ.1 35 1).toInt + 16 * ((r - 1) + 1)) (qX0_keepsFrom σ a1 a2)) (σ : S2) (x1 : Int32) (x2 : Int32) (hI : IvC 0 τ σ) (p9000 : 0 ≤ x1.toInt) (p9001 : x1.toInt ≤ 6) (p9002 : 0 ≤ r) (p9003 : r ≤ 2) (p9004 : (x1.toInt = 0 ∨ 1 ≤ r)) (p9005 : (x1.toInt ≤ 5 ∨ 2 ≤ r)) (p9006 : (σ.1 35 1).toInt + r ≤ 302)  : Ok (fun z => IvC 0 τ z.2 ∧ (z.2.1 35 1).toInt ≤ (σ.1 35 1).toInt + 16 * (r + 1)) (fX0_keepsFrom_0 τ qX0_keepsFrom σ x1 x2) := by
  have hFU : ((FU : Nat) : Int) = 100000 := rfl
  unfold fX0_keepsFrom_0
  have : (3 : Int32).toInt = 3 := by decide
  refine ok_eq (fun h1 => ?_) (fun h1 => ?_)
  · have : (40 : Int32).toInt = 40 := by decide
    have : 0 ≤ (σ.1 35 1).toInt ∧ (σ.1 35 1).toInt ≤ 1000 := hI.1 35 1
    refine ok_bs (sX0_begin (σ.1 35 1).toInt τ σ 40 hI (by omega) (by omega) (by omega) (by omega) (by omega)) (fun r2 σ3 hr2 => ?_)
    obtain ⟨p3, p4⟩ := hr2
    have p3 : IvC 0 τ σ3 := p3
    have p4 : (σ3.1 35 1).toInt = (σ.1 35 1).toInt + 1 := p4
    have : (0 : Int32).toInt = 0 := by decide
    have := i32_rng x2
    refine ok_bs (hqX0_keepsFrom σ3 0 x2 p3 (by omega) (by omega) (by omega) (by omega) (by omega) (by omega) (by omega)) (fun r5 σ6 hr5 => ?_)
    obtain ⟨p6, p7⟩ := hr5
    have p6 : IvC 0 τ σ6 := p6
    have p7 : (σ6.1 35 1).toInt ≤ (σ3.1 35 1).toInt + 16 * ((r - 1) + 1) := p7
    have := i32_rng r5
    have := i32_rng (-r5)
    exact ok_some ⟨p6, by show (σ6.1 35 1).toInt ≤ (σ.1 35 1).toInt + 16 * (r + 1); omega⟩
  · have : (6 : Int32).toInt = 6 := by decide
    refine ok_eq (fun h8 => ?_) (fun h8 => ?_)
    · have : (70 : Int32).toInt = 70 := by decide
      have : 0 ≤ (σ.1 35 1).toInt ∧ (σ.1 35 1).toInt ≤ 1000 := hI.1 35 1
      refine ok_bs (sX0_begin (σ.1 35 1).toInt τ σ 70 hI (by omega) (by omega) (by omega) (by omega) (by omega)) (fun r9 σ10 hr9 => ?_)
      obtain ⟨p10, p11⟩ := hr9
      have p10 : IvC 0 τ σ10 := p10
      have p11 : (σ10.1 35 1).toInt = (σ.1 35 1).toInt + 1 := p11
      have : (1 : Int32).toInt = 1 := by decide
      have := i32_rng x2
      refine ok_bs (hqX0_keepsFrom σ10 1 x2 p10 (by omega) (by omega) (by omega) (by omega) (by omega) (by omega) (by omega)) (fun r12 σ13 hr12 => ?_)
      obtain ⟨p13, p14⟩ := hr12
      have p13 : IvC 0 τ σ13 := p13
      have p14 : (σ13.1 35 1).toInt ≤ (σ10.1 35 1).toInt + 16 * ((r - 1) + 1) := p14
      refine ok_bs (sX0_movesFrom τ σ13 1 x2 p13 (by omega) (by omega) (by omega)) (fun r15 σ16 hr15 => ?_)
      obtain ⟨p16, p17⟩ := hr15
      have p16 : IvC 0 τ σ16 := p16
      have p17 : (σ16.1 35 1).toInt ≤ (σ13.1 35 1).toInt + 5 * (2 + 1) := p17
      have := i32_rng r12
      have := i32_rng r15
      have := i32_rng (r12 + r15)
      exact ok_some ⟨p16, by show (σ16.1 35 1).toInt ≤ (σ.1 35 1).toInt + 16 * (r + 1); omega⟩
    · have : (10 : Int32).toInt = 10 := by decide
      have : 0 ≤ (σ.1 35 1).toInt ∧ (σ.1 35 1).toInt ≤ 1000 := hI.1 35 1
      refine ok_bs (sX0_begin (σ.1 35 1).toInt τ σ 10 hI (by omega) (by omega) (by omega) (by omega) (by omega)) (fun r18 σ19 hr18 => ?_)
      obtain ⟨p19, p20⟩ := hr18
      have p19 : IvC 0 τ σ19 := p19
      have p20 : (σ19.1 35 1).toInt = (σ.1 35 1).toInt + 1 := p20
      have : 0 ≤ (σ19.1 35 2).toInt ∧ (σ19.1 35 2).toInt ≤ 6 := p19.1 35 2
      have := i32_rng x2
      refine ok_bs (sX0_findsFrom τ σ19 (σ19.1 35 2) x2 p19 (by omega) (by omega) (by omega)) (fun r21 σ22 hr21 => ?_)
      obtain ⟨p22, p23⟩ := hr21
      have p22 : IvC 0 τ σ22 := p22
      have p23 : (σ22.1 35 1).toInt ≤ (σ19.1 35 1).toInt + 1 * (2 + 1) := p23
      have := i32_rng r21
      have : (2 : Int32).toInt = 2 := by decide
      have := i32_rng (r21 * 2)
      exact ok_some ⟨p22, by show (σ22.1 35 1).toInt ≤ (σ.1 35 1).toInt + 16 * (r + 1); omega⟩

theorem sGX0_keepsFrom (τ : Nat) : ∀ d : Nat, (∀ (r : Int) (σ : S2) (a1 : Int32) (a2 : Int32), r < (d : Int) → IvC 0 τ σ → 0 ≤ a1.toInt → a1.toInt ≤ 6 → 0 ≤ r → r ≤ 2 → (a1.toInt = 0 ∨ 1 ≤ r) → (a1.toInt ≤ 5 ∨ 2 ≤ r) → (σ.1 35 1).toInt + r ≤ 302 → Ok (fun z => IvC 0 τ z.2 ∧ (z.2.1 35 1).toInt ≤ (σ.1 35 1).toInt + 16 * (r + 1)) (GX0_keepsFrom τ d 0 σ a1 a2)) := by
  intro d
  induction d with
  | zero => exact (fun r σ a1 a2 hd hI p0 p1 p2 p3 p4 p5 p6 => by exfalso; omega)
  | succ d ih =>
    exact (fun r σ a1 a2 hd hI p0 p1 p2 p3 p4 p5 p6 => sX0_keepsFrom_0  r  τ (GX0_keepsFrom τ d 0) (fun σ a1 a2 hI p0 p1 p2 p3 p4 p5 p6 => ih (r - 1) σ a1 a2 (by omega) hI p0 p1 p2 p3 p4 p5 p6) σ a1 a2 hI p0 p1 p2 p3 p4 p5 p6)
theorem sX0_keepsFrom (τ : Nat)  (σ : S2) (a1 : Int32) (a2 : Int32) (hI : IvC 0 τ σ) (p9000 : 0 ≤ a1.toInt) (p9001 : a1.toInt ≤ 6) (p9002 : (σ.1 35 1).toInt ≤ 300) : Ok (fun z => IvC 0 τ z.2 ∧ (z.2.1 35 1).toInt ≤ (σ.1 35 1).toInt + 16 * (2 + 1)) (fX0_keepsFrom τ σ a1 a2) := by
  exact (sGX0_keepsFrom τ 24) 2  σ a1 a2 (by decide) hI p9000 p9001 (by omega) (by omega) (by omega) (by omega) (by omega)

theorem sX0_tellsFrom_0 (r : Int) (τ : Nat) (qX0_tellsFrom : S2 → Int32 → Int32 → Option (Int32 × S2)) (hqX0_tellsFrom : ∀ (σ : S2) (a1 : Int32) (a2 : Int32), IvC 0 τ σ → 0 ≤ a1.toInt → a1.toInt ≤ 6 → 0 ≤ (r - 1) → (r - 1) ≤ 2 → (a1.toInt = 0 ∨ 1 ≤ (r - 1)) → (a1.toInt ≤ 5 ∨ 2 ≤ (r - 1)) → (σ.1 35 1).toInt + (r - 1) ≤ 202 → Ok (fun z => IvC 0 τ z.2 ∧ (z.2.1 35 1).toInt ≤ (σ.1 35 1).toInt + 64 * ((r - 1) + 1)) (qX0_tellsFrom σ a1 a2)) (σ : S2) (x1 : Int32) (x2 : Int32) (hI : IvC 0 τ σ) (p9000 : 0 ≤ x1.toInt) (p9001 : x1.toInt ≤ 6) (p9002 : 0 ≤ r) (p9003 : r ≤ 2) (p9004 : (x1.toInt = 0 ∨ 1 ≤ r)) (p9005 : (x1.toInt ≤ 5 ∨ 2 ≤ r)) (p9006 : (σ.1 35 1).toInt + r ≤ 202)  : Ok (fun z => IvC 0 τ z.2 ∧ (z.2.1 35 1).toInt ≤ (σ.1 35 1).toInt + 64 * (r + 1)) (fX0_tellsFrom_0 τ qX0_tellsFrom σ x1 x2) := by
  have hFU : ((FU : Nat) : Int) = 100000 := rfl
  unfold fX0_tellsFrom_0
  have : (4 : Int32).toInt = 4 := by decide
  refine ok_eq (fun h1 => ?_) (fun h1 => ?_)
  · have : (50 : Int32).toInt = 50 := by decide
    have : 0 ≤ (σ.1 35 1).toInt ∧ (σ.1 35 1).toInt ≤ 1000 := hI.1 35 1
    refine ok_bs (sX0_begin (σ.1 35 1).toInt τ σ 50 hI (by omega) (by omega) (by omega) (by omega) (by omega)) (fun r10 σ11 hr2 => ?_)
    obtain ⟨p3, p4⟩ := hr2
    have p3 : IvC 0 τ σ11 := p3
    have p4 : (σ11.1 35 1).toInt = (σ.1 35 1).toInt + 1 := p4
    have : (0 : Int32).toInt = 0 := by decide
    have := i32_rng x2
    refine ok_bs (hqX0_tellsFrom σ11 0 x2 p3 (by omega) (by omega) (by omega) (by omega) (by omega) (by omega) (by omega)) (fun r13 σ14 hr5 => ?_)
    obtain ⟨p6, p7⟩ := hr5
    have p6 : IvC 0 τ σ14 := p6
    have p7 : (σ14.1 35 1).toInt ≤ (σ11.1 35 1).toInt + 64 * ((r - 1) + 1) := p7
    have := i32_rng r13
    have : (9 : Int32).toInt = 9 := by decide
    have := i32_rng (r13 ^^^ 9)
    exact ok_some ⟨p6, by show (σ14.1 35 1).toInt ≤ (σ.1 35 1).toInt + 64 * (r + 1); omega⟩
  · have : (2 : Int32).toInt = 2 := by decide
    have : 0 ≤ (σ.1 35 1).toInt ∧ (σ.1 35 1).toInt ≤ 1000 := hI.1 35 1
    refine ok_bs (sX0_begin (σ.1 35 1).toInt τ σ 2 hI (by omega) (by omega) (by omega) (by omega) (by omega)) (fun r1 σ2 hr8 => ?_)
    obtain ⟨p9, p10⟩ := hr8
    have p9 : IvC 0 τ σ2 := p9
    have p10 : (σ2.1 35 1).toInt = (σ.1 35 1).toInt + 1 := p10
    have : 0 ≤ (σ2.1 35 2).toInt ∧ (σ2.1 35 2).toInt ≤ 6 := p9.1 35 2
    have := i32_rng x2
    refine ok_bs (sX0_keepsFrom τ σ2 (σ2.1 35 2) x2 p9 (by omega) (by omega) (by omega)) (fun r4 σ5 hr11 => ?_)
    obtain ⟨p12, p13⟩ := hr11
    have p12 : IvC 0 τ σ5 := p12
    have p13 : (σ5.1 35 1).toInt ≤ (σ2.1 35 1).toInt + 16 * (2 + 1) := p13
    have : 0 ≤ (σ5.1 35 2).toInt ∧ (σ5.1 35 2).toInt ≤ 6 := p12.1 35 2
    have : (1 : Int32).toInt = 1 := by decide
    refine ok_bs (sX0_movesFrom τ σ5 (σ5.1 35 2) 1 p12 (by omega) (by omega) (by omega)) (fun r7 σ8 hr14 => ?_)
    obtain ⟨p15, p16⟩ := hr14
    have p15 : IvC 0 τ σ8 := p15
    have p16 : (σ8.1 35 1).toInt ≤ (σ5.1 35 1).toInt + 5 * (2 + 1) := p16
    have := i32_rng r4
    have := i32_rng r7
    have := i32_rng (r4 - r7)
    exact ok_some ⟨p15, by show (σ8.1 35 1).toInt ≤ (σ.1 35 1).toInt + 64 * (r + 1); omega⟩

theorem sGX0_tellsFrom (τ : Nat) : ∀ d : Nat, (∀ (r : Int) (σ : S2) (a1 : Int32) (a2 : Int32), r < (d : Int) → IvC 0 τ σ → 0 ≤ a1.toInt → a1.toInt ≤ 6 → 0 ≤ r → r ≤ 2 → (a1.toInt = 0 ∨ 1 ≤ r) → (a1.toInt ≤ 5 ∨ 2 ≤ r) → (σ.1 35 1).toInt + r ≤ 202 → Ok (fun z => IvC 0 τ z.2 ∧ (z.2.1 35 1).toInt ≤ (σ.1 35 1).toInt + 64 * (r + 1)) (GX0_tellsFrom τ d 0 σ a1 a2)) := by
  intro d
  induction d with
  | zero => exact (fun r σ a1 a2 hd hI p0 p1 p2 p3 p4 p5 p6 => by exfalso; omega)
  | succ d ih =>
    exact (fun r σ a1 a2 hd hI p0 p1 p2 p3 p4 p5 p6 => sX0_tellsFrom_0  r  τ (GX0_tellsFrom τ d 0) (fun σ a1 a2 hI p0 p1 p2 p3 p4 p5 p6 => ih (r - 1) σ a1 a2 (by omega) hI p0 p1 p2 p3 p4 p5 p6) σ a1 a2 hI p0 p1 p2 p3 p4 p5 p6)
theorem sX0_tellsFrom (τ : Nat)  (σ : S2) (a1 : Int32) (a2 : Int32) (hI : IvC 0 τ σ) (p9000 : 0 ≤ a1.toInt) (p9001 : a1.toInt ≤ 6) (p9002 : (σ.1 35 1).toInt ≤ 200) : Ok (fun z => IvC 0 τ z.2 ∧ (z.2.1 35 1).toInt ≤ (σ.1 35 1).toInt + 64 * (2 + 1)) (fX0_tellsFrom τ σ a1 a2) := by
  exact (sGX0_tellsFrom τ 24) 2  σ a1 a2 (by decide) hI p9000 p9001 (by omega) (by omega) (by omega) (by omega) (by omega)

theorem sX0_run_0 (τ : Nat) (σ : S2) (x1 : Int32) (x2 : Int32) (x3 : Int32) (x4 : Int32) (x5 : Int32) (hI : IvC 0 τ σ) (p9000 : 0 ≤ x1.toInt) (p9001 : x1.toInt ≤ 11) (p9002 : 0 ≤ x2.toInt) (p9003 : x2.toInt ≤ 8) (p9004 : 0 ≤ x3.toInt) (p9005 : x3.toInt ≤ 6) (p9006 : 0 ≤ (σ.1 35 1).toInt) (p9007 : (σ.1 35 1).toInt ≤ 0)  : Ok (fun z => IvC 0 τ z.2) (fX0_run_0 τ σ x1 x2 x3 x4 x5) := by
  have hFU : ((FU : Nat) : Int) = 100000 := rfl
  unfold fX0_run_0
  refine ok_nm (fun σ1 hs1 => ?_)
  have hI2 : IvC 0 τ σ1 := by rw [hs1]; exact IvC.wF hI (by decide) (by omega) (show 0 ≤ (x1 : Int32).toInt by omega) (show (x1 : Int32).toInt ≤ 11 by omega)
  have : (σ1.1 35 1).toInt = (σ.1 35 1).toInt := by rw [hs1]; rfl
  refine ok_nm (fun σ2 hs3 => ?_)
  have hI4 : IvC 0 τ σ2 := by rw [hs3]; exact IvC.wF hI2 (by decide) (by omega) (show 0 ≤ (x2 : Int32).toInt by omega) (show (x2 : Int32).toInt ≤ 8 by omega)
  have : (σ2.1 35 1).toInt = (σ1.1 35 1).toInt := by rw [hs3]; rfl
  have : (σ2.1 35 3).toInt = (σ1.1 35 3).toInt := by rw [hs3]; rfl
  refine ok_nm (fun σ3 hs5 => ?_)
  have hI6 : IvC 0 τ σ3 := by rw [hs5]; exact IvC.wF hI4 (by decide) (by omega) (show 0 ≤ (x3 : Int32).toInt by omega) (show (x3 : Int32).toInt ≤ 6 by omega)
  have : (σ3.1 35 1).toInt = (σ2.1 35 1).toInt := by rw [hs5]; rfl
  have : (σ3.1 35 3).toInt = (σ2.1 35 3).toInt := by rw [hs5]; rfl
  have : (σ3.1 35 4).toInt = (σ2.1 35 4).toInt := by rw [hs5]; rfl
  have := i32_rng x4
  have : (0 : Int32).toInt = 0 := by decide
  refine ok_eq (fun h7 => ?_) (fun h7 => ?_)
  · have : 0 ≤ (σ3.1 35 2).toInt ∧ (σ3.1 35 2).toInt ≤ 6 := hI6.1 35 2
    have := i32_rng x5
    refine ok_bs (sX0_findsFrom τ σ3 (σ3.1 35 2) x5 hI6 (by omega) (by omega) (by omega)) (fun r5 σ6 hr8 => ?_)
    obtain ⟨p9, p10⟩ := hr8
    have p9 : IvC 0 τ σ6 := p9
    have p10 : (σ6.1 35 1).toInt ≤ (σ3.1 35 1).toInt + 1 * (2 + 1) := p10
    have := i32_rng r5
    exact ok_some p9
  · have : (1 : Int32).toInt = 1 := by decide
    refine ok_eq (fun h11 => ?_) (fun h11 => ?_)
    · have : 0 ≤ (σ3.1 35 2).toInt ∧ (σ3.1 35 2).toInt ≤ 6 := hI6.1 35 2
      have := i32_rng x5
      refine ok_bs (sX0_keepsFrom τ σ3 (σ3.1 35 2) x5 hI6 (by omega) (by omega) (by omega)) (fun r9 σ10 hr12 => ?_)
      obtain ⟨p13, p14⟩ := hr12
      have p13 : IvC 0 τ σ10 := p13
      have p14 : (σ10.1 35 1).toInt ≤ (σ3.1 35 1).toInt + 16 * (2 + 1) := p14
      have := i32_rng r9
      exact ok_some p13
    · have : (2 : Int32).toInt = 2 := by decide
      refine ok_eq (fun h15 => ?_) (fun h15 => ?_)
      · have : 0 ≤ (σ3.1 35 2).toInt ∧ (σ3.1 35 2).toInt ≤ 6 := hI6.1 35 2
        have := i32_rng x5
        refine ok_bs (sX0_movesFrom τ σ3 (σ3.1 35 2) x5 hI6 (by omega) (by omega) (by omega)) (fun r13 σ14 hr16 => ?_)
        obtain ⟨p17, p18⟩ := hr16
        have p17 : IvC 0 τ σ14 := p17
        have p18 : (σ14.1 35 1).toInt ≤ (σ3.1 35 1).toInt + 5 * (2 + 1) := p18
        have := i32_rng r13
        exact ok_some p17
      · have : (3 : Int32).toInt = 3 := by decide
        refine ok_eq (fun h19 => ?_) (fun h19 => ?_)
        · have : 0 ≤ (σ3.1 35 2).toInt ∧ (σ3.1 35 2).toInt ≤ 6 := hI6.1 35 2
          have := i32_rng x5
          refine ok_bs (sX0_tellsFrom τ σ3 (σ3.1 35 2) x5 hI6 (by omega) (by omega) (by omega)) (fun r17 σ18 hr20 => ?_)
          obtain ⟨p21, p22⟩ := hr20
          have p21 : IvC 0 τ σ18 := p21
          have p22 : (σ18.1 35 1).toInt ≤ (σ3.1 35 1).toInt + 64 * (2 + 1) := p22
          have := i32_rng r17
          exact ok_some p21
        · exact ok_some hI6

theorem sX0_run (τ : Nat) (σ : S2) (a1 : Int32) (a2 : Int32) (a3 : Int32) (a4 : Int32) (a5 : Int32) (hI : IvC 0 τ σ) (p9000 : 0 ≤ a1.toInt) (p9001 : a1.toInt ≤ 11) (p9002 : 0 ≤ a2.toInt) (p9003 : a2.toInt ≤ 8) (p9004 : 0 ≤ a3.toInt) (p9005 : a3.toInt ≤ 6) (p9006 : 0 ≤ (σ.1 35 1).toInt) (p9007 : (σ.1 35 1).toInt ≤ 0)  : Ok (fun z => IvC 0 τ z.2) (fX0_run τ σ a1 a2 a3 a4 a5) := by
  unfold fX0_run
  exact sX0_run_0 τ σ a1 a2 a3 a4 a5 hI (by assumption) (by assumption) (by assumption) (by assumption) (by assumption) (by assumption) (by assumption) (by assumption)

theorem sX11_strewn_0 {g : Nat} (τ : Nat) (σ : S2) (x0 : Int32) (hI : IvC g τ σ)   : Ok (fun z => 0 ≤ z.toInt ∧ z.toInt ≤ 999) (fX11_strewn_0 τ σ x0) := by
  have hFU : ((FU : Nat) : Int) = 100000 := rfl
  unfold fX11_strewn_0
  have : (1000 : Int32).toInt = 1000 := by decide
  refine ok_dz (by omega) ?_
  have : 0 ≤ ((UInt32.toInt32 ((Int32.toUInt32 ((x0 * 1103515245) + 12345)) >>> ((Int32.toUInt32 8) &&& (Int32.toUInt32 31)))) : Int32).toInt ∧ ((UInt32.toInt32 ((Int32.toUInt32 ((x0 * 1103515245) + 12345)) >>> ((Int32.toUInt32 8) &&& (Int32.toUInt32 31)))) : Int32).toInt ≤ 16777215 := i32_ushr 8 (by decide) (by decide)
  have : (((UInt32.toInt32 ((Int32.toUInt32 ((x0 * 1103515245) + 12345)) >>> ((Int32.toUInt32 8) &&& (Int32.toUInt32 31)))) - (((UInt32.toInt32 ((Int32.toUInt32 ((x0 * 1103515245) + 12345)) >>> ((Int32.toUInt32 8) &&& (Int32.toUInt32 31)))) / 1000) * 1000)) : Int32).toInt = ((UInt32.toInt32 ((Int32.toUInt32 ((x0 * 1103515245) + 12345)) >>> ((Int32.toUInt32 8) &&& (Int32.toUInt32 31)))) : Int32).toInt % 1000 := i32_rem (by first | decide | omega | rfl) (by omega) (by omega)
  exact ok_some ⟨by show 0 ≤ ((UInt32.toInt32 ((Int32.toUInt32 ((x0 * 1103515245) + 12345)) >>> ((Int32.toUInt32 8) &&& (Int32.toUInt32 31)))) - (((UInt32.toInt32 ((Int32.toUInt32 ((x0 * 1103515245) + 12345)) >>> ((Int32.toUInt32 8) &&& (Int32.toUInt32 31)))) / 1000) * 1000)).toInt; omega, by show ((UInt32.toInt32 ((Int32.toUInt32 ((x0 * 1103515245) + 12345)) >>> ((Int32.toUInt32 8) &&& (Int32.toUInt32 31)))) - (((UInt32.toInt32 ((Int32.toUInt32 ((x0 * 1103515245) + 12345)) >>> ((Int32.toUInt32 8) &&& (Int32.toUInt32 31)))) / 1000) * 1000)).toInt ≤ 999; omega⟩

theorem sX11_strewn {g : Nat} (τ : Nat) (σ : S2) (a0 : Int32) (hI : IvC g τ σ)   : Ok (fun z => 0 ≤ z.toInt ∧ z.toInt ≤ 999) (fX11_strewn τ σ a0) := by
  unfold fX11_strewn
  exact sX11_strewn_0 τ σ a0 hI

theorem sX8_sumOf_0 (τ : Nat) (b0 : Nat) (σ : S2) (x1 : Int32) (x2 : Int32) (hI : IvC 0 τ σ) (p9000 : 0 ≤ x1.toInt) (p9001 : x1.toInt ≤ 11) (p9002 : 0 ≤ x2.toInt) (p9003 : x2.toInt ≤ 999)  : Ok (fun z => 0 ≤ z.toInt ∧ z.toInt ≤ 15984) (fX8_sumOf_0 τ b0 σ x1 x2) := by
  have hFU : ((FU : Nat) : Int) = 100000 := rfl
  unfold fX8_sumOf_0
  have : (7919 : Int32).toInt = 7919 := by decide
  have : ((x2 * 7919) : Int32).toInt = (x2 : Int32).toInt * 7919 := i32_mulR (by omega) (by omega) (by omega)
  have : (104729 : Int32).toInt = 104729 := by decide
  have : ((x1 * 104729) : Int32).toInt = (x1 : Int32).toInt * 104729 := i32_mulR (by omega) (by omega) (by omega)
  have : (((x2 * 7919) + (x1 * 104729)) : Int32).toInt = ((x2 * 7919) : Int32).toInt + ((x1 * 104729) : Int32).toInt := i32_add (by omega) (by omega)
  have := i32_rng (σ.1 (182 + (6 * b0)) 1)
  have := i32_rng (((x2 * 7919) + (x1 * 104729)) + (σ.1 (182 + (6 * b0)) 1))
  refine ok_bi (sX11_strewn τ σ (((x2 * 7919) + (x1 * 104729)) + (σ.1 (182 + (6 * b0)) 1)) hI) (fun r1 hr1 => ?_)
  obtain ⟨p2, p3⟩ := hr1
  have p2 : 0 ≤ r1.toInt := p2
  have p3 : r1.toInt ≤ 999 := p3
  refine ok_ck (by omega) (by omega) ?_
  have : 0 ≤ (σ.1 ((182 + (6 * b0)) + 1) (Int32.toNatClampNeg x1)).toInt ∧ (σ.1 ((182 + (6 * b0)) + 1) (Int32.toNatClampNeg x1)).toInt ≤ 16 := hI.1.t b0 1 (Int32.toNatClampNeg x1) (by decide)
  refine ok_nmI (fun v3 hv3 he4 => ?_)
  have : 0 ≤ ((r1 * v3) : Int32).toInt ∧ ((r1 * v3) : Int32).toInt ≤ 15984 := i32_mulB 999 16 (by omega) (by omega) (by omega) (by omega) (by omega)
  exact ok_some ⟨by show 0 ≤ (r1 * v3).toInt; omega, by show (r1 * v3).toInt ≤ 15984; omega⟩

theorem sX8_sumOf (τ : Nat) (b0 : Nat) (σ : S2) (a1 : Int32) (a2 : Int32) (hI : IvC 0 τ σ) (p9000 : 0 ≤ a1.toInt) (p9001 : a1.toInt ≤ 11) (p9002 : 0 ≤ a2.toInt) (p9003 : a2.toInt ≤ 999)  : Ok (fun z => 0 ≤ z.toInt ∧ z.toInt ≤ 15984) (fX8_sumOf τ b0 σ a1 a2) := by
  unfold fX8_sumOf
  exact sX8_sumOf_0 τ b0 σ a1 a2 hI (by assumption) (by assumption) (by assumption) (by assumption)

theorem sX1_pickBySums_132 (τ : Nat) (b1 : Nat) (k2 : S2 → Int32 → Int32 → Option (Unit × S2)) (σ : S2) (x2 : Int32) (x3 : Int32) (hI : IvC 0 τ σ) (p9000 : 0 ≤ x2.toInt) (p9001 : x2.toInt ≤ 999) (p9002 : 0 ≤ x3.toInt) (p9003 : x3.toInt ≤ 11) (p9004 : (σ.1 14 2).toInt ≤ x3.toInt + 1) (hk2 : ∀ (y0 : S2) (y1 : Int32) (y2 : Int32), IvC 0 τ y0 → 0 ≤ y1.toInt → y1.toInt ≤ 999 → 0 ≤ y2.toInt → y2.toInt ≤ 12 → (y0.1 14 2).toInt ≤ y2.toInt → x3.toInt + 1 ≤ y2.toInt → Ok (fun z => IvC 0 τ z.2) (k2 y0 y1 y2)) : Ok (fun z => IvC 0 τ z.2) (fX1_pickBySums_132 τ b1 k2 σ x2 x3) := by
  have hFU : ((FU : Nat) : Int) = 100000 := rfl
  unfold fX1_pickBySums_132
  have : (1 : Int32).toInt = 1 := by decide
  have : ((x3 + 1) : Int32).toInt = (x3 : Int32).toInt + (1 : Int32).toInt := i32_add (by omega) (by omega)
  refine ok_nmI (fun v1 hv1 he1 => ?_)
  exact hk2 σ x2 v1 hI (by omega) (by omega) (by omega) (by omega) (by omega) (by omega)

theorem sX1_pickBySums_105 (τ : Nat) (b1 : Nat) (k2 : S2 → Int32 → Int32 → Option (Unit × S2)) (σ : S2) (x2 : Int32) (x3 : Int32) (x4 : Int32) (x5 : Int32) (hI : IvC 0 τ σ) (p9000 : 0 ≤ x2.toInt) (p9001 : x2.toInt ≤ 999) (p9002 : 0 ≤ x3.toInt) (p9003 : x3.toInt ≤ 11) (p9004 : 0 ≤ x4.toInt) (p9005 : x4.toInt ≤ 15984) (p9006 : 0 ≤ x5.toInt) (p9007 : x5.toInt ≤ 11) (p9008 : 0 ≤ (σ.1 14 2).toInt) (p9009 : (σ.1 14 2).toInt ≤ 11) (p9010 : (σ.1 14 2).toInt ≤ x3.toInt) (p9011 : x5.toInt ≤ (σ.1 14 2).toInt) (hk2 : ∀ (y0 : S2) (y1 : Int32) (y2 : Int32), IvC 0 τ y0 → 0 ≤ y1.toInt → y1.toInt ≤ 999 → 0 ≤ y2.toInt → y2.toInt ≤ 12 → (y0.1 14 2).toInt ≤ y2.toInt → x3.toInt + 1 ≤ y2.toInt → Ok (fun z => IvC 0 τ z.2) (k2 y0 y1 y2)) : Ok (fun z => IvC 0 τ z.2) (fX1_pickBySums_105 τ b1 k2 σ x2 x3 x4 x5) := by
  have hFU : ((FU : Nat) : Int) = 100000 := rfl
  unfold fX1_pickBySums_105
  refine ok_ck (by omega) (by omega) ?_
  refine ok_nm (fun σ2 hs1 => ?_)
  have hI2 : IvC 0 τ σ2 := by rw [hs1]; exact IvC.wF hI (by decide) (by omega) (show 0 ≤ (x4 : Int32).toInt by omega) (show (x4 : Int32).toInt ≤ 15984 by omega)
  have : (σ2.1 14 2).toInt = (σ.1 14 2).toInt := by rw [hs1]; rfl
  refine ok_ck (by omega) (by omega) ?_
  refine ok_nm (fun σ3 hs3 => ?_)
  have hI4 : IvC 0 τ σ3 := by rw [hs3]; exact IvC.wF hI2 (by decide) (by omega) (show 0 ≤ (x3 : Int32).toInt by omega) (show (x3 : Int32).toInt ≤ 11 by omega)
  have : (σ3.1 14 2).toInt = (σ2.1 14 2).toInt := by rw [hs3]; rfl
  have : 0 ≤ (σ3.1 14 2).toInt ∧ (σ3.1 14 2).toInt ≤ 12 := hI4.1 14 2
  have : (1 : Int32).toInt = 1 := by decide
  have : (((σ3.1 14 2) + 1) : Int32).toInt = ((σ3.1 14 2) : Int32).toInt + (1 : Int32).toInt := i32_add (by omega) (by omega)
  refine ok_nm (fun σ4 hs5 => ?_)
  have hI6 : IvC 0 τ σ4 := by rw [hs5]; exact IvC.wF hI4 (by decide) (by omega) (show 0 ≤ (((σ3.1 14 2) + 1) : Int32).toInt by omega) (show (((σ3.1 14 2) + 1) : Int32).toInt ≤ 12 by omega)
  have : (σ4.1 14 2).toInt = (((σ3.1 14 2) + 1) : Int32).toInt := by rw [hs5]; rfl
  exact sX1_pickBySums_132 τ b1 k2 σ4 x2 x3 hI6 (by omega) (by omega) (by omega) (by omega) (by omega) (fun y0 y1 y2 q0 q1 q2 q3 q4 q5 q6 => hk2 y0 y1 y2 q0 q1 q2 q3 q4 q5 (by omega))

theorem sX1_pickBySums_42 (τ : Nat) (b1 : Nat) (k2 : S2 → Int32 → Int32 → Option (Unit × S2)) : ∀ (n : Nat) (σ : S2) (x2 : Int32) (x3 : Int32) (x4 : Int32) (x5 : Int32) (x6 : Int32), IvC 0 τ σ → 0 ≤ x2.toInt → x2.toInt ≤ 999 → 0 ≤ x3.toInt → x3.toInt ≤ 11 → 0 ≤ x4.toInt → x4.toInt ≤ 15984 → 0 ≤ x5.toInt → x5.toInt ≤ 11 → 0 ≤ x6.toInt → x6.toInt ≤ 11 → (σ.1 14 2).toInt ≤ x3.toInt → x6.toInt ≤ (σ.1 14 2).toInt → x5.toInt ≤ (σ.1 14 2).toInt → x6.toInt - 0 < (n : Int) → (∀ (y0 : S2) (y1 : Int32) (y2 : Int32), IvC 0 τ y0 → 0 ≤ y1.toInt → y1.toInt ≤ 999 → 0 ≤ y2.toInt → y2.toInt ≤ 12 → (y0.1 14 2).toInt ≤ y2.toInt → x3.toInt + 1 ≤ y2.toInt → Ok (fun z => IvC 0 τ z.2) (k2 y0 y1 y2)) → Ok (fun z => IvC 0 τ z.2) (fX1_pickBySums_42 τ b1 k2 n σ x2 x3 x4 x5 x6) := by
  have hFU : ((FU : Nat) : Int) = 100000 := rfl
  intro n
  induction n with
  | zero => intro σ x2 x3 x4 x5 x6 hI p9000 p9001 p9002 p9003 p9004 p9005 p9006 p9007 p9008 p9009 p9010 p9011 p9012 hm hk2; exfalso; omega
  | succ n ih =>
    intro σ x2 x3 x4 x5 x6 hI p9000 p9001 p9002 p9003 p9004 p9005 p9006 p9007 p9008 p9009 p9010 p9011 p9012 hm hk2
    unfold fX1_pickBySums_42
    have : (0 : Int32).toInt = 0 := by decide
    refine ok_le (fun h1 => ?_) (fun h1 => ?_)
    · have : 0 ≤ (σ.1 14 2).toInt ∧ (σ.1 14 2).toInt ≤ 12 := hI.1 14 2
      exact sX1_pickBySums_105 τ b1 k2 σ x2 x3 x4 x5 hI (by omega) (by omega) (by omega) (by omega) (by omega) (by omega) (by omega) (by omega) (by omega) (by omega) (by omega) (by omega) (fun y0 y1 y2 q0 q1 q2 q3 q4 q5 q6 => hk2 y0 y1 y2 q0 q1 q2 q3 q4 q5 (by omega))
    · have : (1 : Int32).toInt = 1 := by decide
      have : ((x6 - 1) : Int32).toInt = (x6 : Int32).toInt - (1 : Int32).toInt := i32_sub (by omega) (by omega)
      refine ok_ck (by omega) (by omega) ?_
      have : 0 ≤ (σ.1 17 (Int32.toNatClampNeg (x6 - 1))).toInt ∧ (σ.1 17 (Int32.toNatClampNeg (x6 - 1))).toInt ≤ 15984 := hI.1 17 (Int32.toNatClampNeg (x6 - 1))
      refine ok_nmI (fun v5 hv5 he2 => ?_)
      refine ok_le (fun h3 => ?_) (fun h3 => ?_)
      · have : 0 ≤ (σ.1 14 2).toInt ∧ (σ.1 14 2).toInt ≤ 12 := hI.1 14 2
        exact sX1_pickBySums_105 τ b1 k2 σ x2 x3 x4 x5 hI (by omega) (by omega) (by omega) (by omega) (by omega) (by omega) (by omega) (by omega) (by omega) (by omega) (by omega) (by omega) (fun y0 y1 y2 q0 q1 q2 q3 q4 q5 q6 => hk2 y0 y1 y2 q0 q1 q2 q3 q4 q5 (by omega))
      · refine ok_ck (by omega) (by omega) ?_
        refine ok_nmI (fun v6 hv6 he4 => ?_)
        refine ok_ck (by omega) (by omega) ?_
        refine ok_nm (fun σ7 hs5 => ?_)
        have hI6 : IvC 0 τ σ7 := by rw [hs5]; exact IvC.wF hI (by decide) (by omega) (show 0 ≤ (v6 : Int32).toInt by omega) (show (v6 : Int32).toInt ≤ 15984 by omega)
        have : (σ7.1 14 2).toInt = (σ.1 14 2).toInt := by rw [hs5]; rfl
        refine ok_ck (by omega) (by omega) ?_
        have : 0 ≤ (σ7.1 15 (Int32.toNatClampNeg (x6 - 1))).toInt ∧ (σ7.1 15 (Int32.toNatClampNeg (x6 - 1))).toInt ≤ 11 := hI6.1 15 (Int32.toNatClampNeg (x6 - 1))
        refine ok_nmI (fun v8 hv8 he7 => ?_)
        refine ok_ck (by omega) (by omega) ?_
        refine ok_nm (fun σ9 hs8 => ?_)
        have hI9 : IvC 0 τ σ9 := by rw [hs8]; exact IvC.wF hI6 (by decide) (by omega) (show 0 ≤ (v8 : Int32).toInt by omega) (show (v8 : Int32).toInt ≤ 11 by omega)
        have : (σ9.1 14 2).toInt = (σ7.1 14 2).toInt := by rw [hs8]; rfl
        refine ok_nmI (fun v10 hv10 he10 => ?_)
        refine ok_nmI (fun v11 hv11 he11 => ?_)
        have : v11.toInt = x6.toInt - 1 := by rw [he11]; exact i32_addm1 (by omega)
        clear hv11 he11
        exact ih σ9 x2 x3 x4 v10 v11 hI9 (by omega) (by omega) (by omega) (by omega) (by omega) (by omega) (by omega) (by omega) (by omega) (by omega) (by omega) (by omega) (by omega) (by omega) (fun y0 y1 y2 q0 q1 q2 q3 q4 q5 q6 => hk2 y0 y1 y2 q0 q1 q2 q3 q4 q5 (by omega))

theorem sX1_pickBySums_2 (τ : Nat) (b1 : Nat) : ∀ (n : Nat) (σ : S2) (x2 : Int32) (x3 : Int32), IvC 0 τ σ → 0 ≤ x2.toInt → x2.toInt ≤ 999 → 0 ≤ x3.toInt → x3.toInt ≤ 12 → (σ.1 14 2).toInt ≤ x3.toInt → 12 - x3.toInt < (n : Int) → Ok (fun z => IvC 0 τ z.2) (fX1_pickBySums_2 τ b1 n σ x2 x3) := by
  have hFU : ((FU : Nat) : Int) = 100000 := rfl
  intro n
  induction n with
  | zero => intro σ x2 x3 hI p9000 p9001 p9002 p9003 p9004 hm; exfalso; omega
  | succ n ih =>
    intro σ x2 x3 hI p9000 p9001 p9002 p9003 p9004 hm
    unfold fX1_pickBySums_2
    have : (12 : Int32).toInt = 12 := by decide
    refine ok_le (fun h1 => ?_) (fun h1 => ?_)
    · have := i32_rng (σ.1 (182 + (6 * b1)) 0)
      refine ok_nm (fun σ12 hs2 => ?_)
      have hI3 : IvC 0 τ σ12 := by rw [hs2]; exact IvC.wF hI (by decide) (by omega) (i32_rng _).1 (i32_rng _).2
      have : (σ12.1 14 2).toInt = (σ.1 14 2).toInt := by rw [hs2]; rfl
      exact ok_some hI3
    · have := i32_rng (σ.1 (182 + (6 * b1)) 0)
      have : (31 : Int32).toInt = 31 := by decide
      have := i32_andR (a := x3) (m := 31) (by omega)
      have := i32_andL (a := x3) (m := 31) (by omega)
      have := i32_rng ((σ.1 (182 + (6 * b1)) 0) >>> (x3 &&& 31))
      have : (1 : Int32).toInt = 1 := by decide
      have := i32_andR (a := ((σ.1 (182 + (6 * b1)) 0) >>> (x3 &&& 31))) (m := 1) (by omega)
      have : (0 : Int32).toInt = 0 := by decide
      refine ok_eq (fun h4 => ?_) (fun h4 => ?_)
      · exact sX1_pickBySums_132 τ b1 (fX1_pickBySums_2 τ b1 n) σ x2 x3 hI (by omega) (by omega) (by omega) (by omega) (by omega) (fun y0 y1 y2 q0 q1 q2 q3 q4 q5 q6 => ih y0 y1 y2 q0 q1 q2 q3 q4 q5 (by omega))
      · refine ok_bi (sX8_sumOf τ b1 σ x3 x2 hI (by omega) (by omega) (by omega) (by omega)) (fun r13 hr5 => ?_)
        obtain ⟨p6, p7⟩ := hr5
        have p6 : 0 ≤ r13.toInt := p6
        have p7 : r13.toInt ≤ 15984 := p7
        have : 0 ≤ (σ.1 14 2).toInt ∧ (σ.1 14 2).toInt ≤ 12 := hI.1 14 2
        refine ok_nmI (fun v15 hv15 he8 => ?_)
        refine ok_nmI (fun v16 hv16 he9 => ?_)
        exact sX1_pickBySums_42 τ b1 (fX1_pickBySums_2 τ b1 n) FU σ x2 x3 r13 v15 v16 hI (by omega) (by omega) (by omega) (by omega) (by omega) (by omega) (by omega) (by omega) (by omega) (by omega) (by omega) (by omega) (by omega) (by omega) (fun y0 y1 y2 q0 q1 q2 q3 q4 q5 q6 => ih y0 y1 y2 q0 q1 q2 q3 q4 q5 (by omega))

theorem sX1_pickBySums_0 (τ : Nat) (b1 : Nat) (σ : S2) (x2 : Int32) (hI : IvC 0 τ σ) (p9000 : 0 ≤ x2.toInt) (p9001 : x2.toInt ≤ 999) (p9002 : (σ.1 14 2).toInt ≤ 0)  : Ok (fun z => IvC 0 τ z.2) (fX1_pickBySums_0 τ b1 σ x2) := by
  have hFU : ((FU : Nat) : Int) = 100000 := rfl
  unfold fX1_pickBySums_0
  have : (0 : Int32).toInt = 0 := by decide
  exact sX1_pickBySums_2 τ b1 FU σ x2 0 hI (by omega) (by omega) (by omega) (by omega) (by omega) (by omega)

theorem sX1_pickBySums (τ : Nat) (b1 : Nat) (σ : S2) (a2 : Int32) (hI : IvC 0 τ σ) (p9000 : 0 ≤ a2.toInt) (p9001 : a2.toInt ≤ 999) (p9002 : (σ.1 14 2).toInt ≤ 0)  : Ok (fun z => IvC 0 τ z.2) (fX1_pickBySums τ b1 σ a2) := by
  unfold fX1_pickBySums
  exact sX1_pickBySums_0 τ b1 σ a2 hI (by assumption) (by assumption) (by assumption)

theorem sX1_isPicked_0 (τ : Nat) (σ : S2) (x1 : Int32) (hI : IvC 0 τ σ) (p9000 : (-1) ≤ x1.toInt) (p9001 : x1.toInt ≤ 11)  : Ok (fun z => 0 ≤ z.toInt ∧ z.toInt ≤ 1) (fX1_isPicked_0 τ σ x1) := by
  have hFU : ((FU : Nat) : Int) = 100000 := rfl
  unfold fX1_isPicked_0
  have := i32_rng (σ.1 14 6)
  have : (31 : Int32).toInt = 31 := by decide
  have := i32_andR (a := x1) (m := 31) (by omega)
  have := i32_rng ((σ.1 14 6) >>> (x1 &&& 31))
  have : (1 : Int32).toInt = 1 := by decide
  have := i32_andR (a := ((σ.1 14 6) >>> (x1 &&& 31))) (m := 1) (by omega)
  refine ok_eq (fun h1 => ?_) (fun h1 => ?_)
  · exact ok_some ⟨by show 0 ≤ (1 : Int32).toInt; omega, by show (1 : Int32).toInt ≤ 1; omega⟩
  · have : (0 : Int32).toInt = 0 := by decide
    exact ok_some ⟨by show 0 ≤ (0 : Int32).toInt; omega, by show (0 : Int32).toInt ≤ 1; omega⟩

theorem sX1_isPicked (τ : Nat) (σ : S2) (a1 : Int32) (hI : IvC 0 τ σ) (p9000 : (-1) ≤ a1.toInt) (p9001 : a1.toInt ≤ 11)  : Ok (fun z => 0 ≤ z.toInt ∧ z.toInt ≤ 1) (fX1_isPicked τ σ a1) := by
  unfold fX1_isPicked
  exact sX1_isPicked_0 τ σ a1 hI (by assumption) (by assumption)

theorem sX1_takePick_0 (τ : Nat) (σ : S2) (x1 : Int32) (hI : IvC 0 τ σ) (p9000 : 0 ≤ x1.toInt) (p9001 : x1.toInt ≤ 11)  : Ok (fun z => IvC 0 τ z.2) (fX1_takePick_0 τ σ x1) := by
  have hFU : ((FU : Nat) : Int) = 100000 := rfl
  unfold fX1_takePick_0
  have : 0 ≤ (σ.1 14 2).toInt ∧ (σ.1 14 2).toInt ≤ 12 := hI.1 14 2
  have : (12 : Int32).toInt = 12 := by decide
  refine ok_lt (fun h1 => ?_) (fun h1 => ?_)
  · refine ok_ck (by omega) (by omega) ?_
    refine ok_nm (fun σ1 hs2 => ?_)
    have hI3 : IvC 0 τ σ1 := by rw [hs2]; exact IvC.wF hI (by decide) (by omega) (show 0 ≤ (x1 : Int32).toInt by omega) (show (x1 : Int32).toInt ≤ 11 by omega)
    have : (σ1.1 14 2).toInt = (σ.1 14 2).toInt := by rw [hs2]; rfl
    have : 0 ≤ (σ1.1 14 2).toInt ∧ (σ1.1 14 2).toInt ≤ 12 := hI3.1 14 2
    have : (1 : Int32).toInt = 1 := by decide
    have : (((σ1.1 14 2) + 1) : Int32).toInt = ((σ1.1 14 2) : Int32).toInt + (1 : Int32).toInt := i32_add (by omega) (by omega)
    refine ok_nm (fun σ2 hs4 => ?_)
    have hI5 : IvC 0 τ σ2 := by rw [hs4]; exact IvC.wF hI3 (by decide) (by omega) (show 0 ≤ (((σ1.1 14 2) + 1) : Int32).toInt by omega) (show (((σ1.1 14 2) + 1) : Int32).toInt ≤ 12 by omega)
    have : (σ2.1 14 2).toInt = (((σ1.1 14 2) + 1) : Int32).toInt := by rw [hs4]; rfl
    have := i32_rng (σ2.1 14 6)
    have : (31 : Int32).toInt = 31 := by decide
    have := i32_andR (a := x1) (m := 31) (by omega)
    have := i32_andL (a := x1) (m := 31) (by omega)
    have : 1 ≤ ((1 <<< (x1 &&& 31)) : Int32).toInt ∧ ((1 <<< (x1 &&& 31)) : Int32).toInt ≤ 2048 := i32_shlB 11 (by omega) (by omega) (by decide)
    have := i32_rng ((σ2.1 14 6) ||| (1 <<< (x1 &&& 31)))
    refine ok_nm (fun σ3 hs6 => ?_)
    have hI7 : IvC 0 τ σ3 := by rw [hs6]; exact IvC.wF hI5 (by decide) (by omega) (i32_rng _).1 (i32_rng _).2
    have : (σ3.1 14 2).toInt = (σ2.1 14 2).toInt := by rw [hs6]; rfl
    exact ok_some hI7
  · exact ok_some hI

theorem sX1_takePick (τ : Nat) (σ : S2) (a1 : Int32) (hI : IvC 0 τ σ) (p9000 : 0 ≤ a1.toInt) (p9001 : a1.toInt ≤ 11)  : Ok (fun z => IvC 0 τ z.2) (fX1_takePick τ σ a1) := by
  unfold fX1_takePick
  exact sX1_takePick_0 τ σ a1 hI (by assumption) (by assumption)

theorem sX11_placeBehind_0 {g : Nat} (τ : Nat) (σ : S2) (x0 : Int32) (hI : IvC g τ σ) (p9000 : 0 ≤ x0.toInt) (p9001 : x0.toInt ≤ 999)  : Ok (fun z => 0 ≤ z.toInt ∧ z.toInt ≤ 999) (fX11_placeBehind_0 τ σ x0) := by
  have hFU : ((FU : Nat) : Int) = 100000 := rfl
  unfold fX11_placeBehind_0
  have : (1000 : Int32).toInt = 1000 := by decide
  have : (1 : Int32).toInt = 1 := by decide
  have : ((x0 + 1) : Int32).toInt = (x0 : Int32).toInt + (1 : Int32).toInt := i32_add (by omega) (by omega)
  refine ok_le (fun h1 => ?_) (fun h1 => ?_)
  · have : (0 : Int32).toInt = 0 := by decide
    exact ok_some ⟨by show 0 ≤ (0 : Int32).toInt; omega, by show (0 : Int32).toInt ≤ 999; omega⟩
  · exact ok_some ⟨by show 0 ≤ (x0 + 1).toInt; omega, by show (x0 + 1).toInt ≤ 999; omega⟩

theorem sX11_placeBehind {g : Nat} (τ : Nat) (σ : S2) (a0 : Int32) (hI : IvC g τ σ) (p9000 : 0 ≤ a0.toInt) (p9001 : a0.toInt ≤ 999)  : Ok (fun z => 0 ≤ z.toInt ∧ z.toInt ≤ 999) (fX11_placeBehind τ σ a0) := by
  unfold fX11_placeBehind
  exact sX11_placeBehind_0 τ σ a0 hI (by assumption) (by assumption)

theorem sX1_pickFirstFrom_5 (τ : Nat) (b1 : Nat) : ∀ (n : Nat) (σ : S2) (x3 : Int32) (x4 : Int32), IvC 0 τ σ → 0 ≤ x3.toInt → x3.toInt ≤ 999 → 0 ≤ x4.toInt → x4.toInt ≤ 768 → 768 - x4.toInt < (n : Int) → Ok (fun z => IvC 0 τ z.2) (fX1_pickFirstFrom_5 τ b1 n σ x3 x4) := by
  have hFU : ((FU : Nat) : Int) = 100000 := rfl
  intro n
  induction n with
  | zero => intro σ x3 x4 hI p9000 p9001 p9002 p9003 hm; exfalso; omega
  | succ n ih =>
    intro σ x3 x4 hI p9000 p9001 p9002 p9003 hm
    unfold fX1_pickFirstFrom_5
    have : 0 ≤ (σ.1 (182 + (6 * b1)) 5).toInt ∧ (σ.1 (182 + (6 * b1)) 5).toInt ≤ 768 := hI.1.t0 b1 5
    refine ok_le (fun h1 => ?_) (fun h1 => ?_)
    · exact ok_some hI
    · refine ok_ck (by omega) (by omega) ?_
      have : 0 ≤ (σ.1 ((182 + (6 * b1)) + 5) (Int32.toNatClampNeg x3)).toInt ∧ (σ.1 ((182 + (6 * b1)) + 5) (Int32.toNatClampNeg x3)).toInt ≤ 999 := hI.1.t b1 5 (Int32.toNatClampNeg x3) (by decide)
      refine ok_nmI (fun v1 hv1 he2 => ?_)
      refine ok_ck (by omega) (by omega) ?_
      have : (-1) ≤ (σ.1 ((182 + (6 * b1)) + 4) (Int32.toNatClampNeg v1)).toInt ∧ (σ.1 ((182 + (6 * b1)) + 4) (Int32.toNatClampNeg v1)).toInt ≤ 11 := hI.1.t b1 4 (Int32.toNatClampNeg v1) (by decide)
      refine ok_nmI (fun v2 hv2 he3 => ?_)
      refine ok_bi (sX1_isPicked τ σ v2 hI (by omega) (by omega)) (fun r3 hr4 => ?_)
      obtain ⟨p5, p6⟩ := hr4
      have p5 : 0 ≤ r3.toInt := p5
      have p6 : r3.toInt ≤ 1 := p6
      have : (0 : Int32).toInt = 0 := by decide
      refine ok_eq (fun h7 => ?_) (fun h7 => ?_)
      · refine ok_ck (by omega) (by omega) ?_
        refine ok_nmI (fun v8 hv8 he8 => ?_)
        have : 0 ≤ v8.toInt := by rw [hv8, hv1]; exact hI.own b1 (by omega) (by omega) (by have := i32_nat (i := x3) (by omega); omega)
        refine ok_bs (sX1_takePick τ σ v8 hI (by omega) (by omega)) (fun r9 σ10 hr9 => ?_)
        have hr9 : IvC 0 τ σ10 := hr9
        exact ok_some hr9
      · refine ok_bi (sX11_placeBehind τ σ v1 hI (by omega) (by omega)) (fun r5 hr11 => ?_)
        obtain ⟨p12, p13⟩ := hr11
        have p12 : 0 ≤ r5.toInt := p12
        have p13 : r5.toInt ≤ 999 := p13
        have : (1 : Int32).toInt = 1 := by decide
        have : ((x4 + 1) : Int32).toInt = (x4 : Int32).toInt + (1 : Int32).toInt := i32_add (by omega) (by omega)
        refine ok_nmI (fun v7 hv7 he14 => ?_)
        exact ih σ r5 v7 hI (by omega) (by omega) (by omega) (by omega) (by omega)

theorem sX1_pickFirstFrom_0 (τ : Nat) (b1 : Nat) (σ : S2) (x2 : Int32) (hI : IvC 0 τ σ) (p9000 : 0 ≤ x2.toInt) (p9001 : x2.toInt ≤ 999)  : Ok (fun z => IvC 0 τ z.2) (fX1_pickFirstFrom_0 τ b1 σ x2) := by
  have hFU : ((FU : Nat) : Int) = 100000 := rfl
  unfold fX1_pickFirstFrom_0
  have : (0 : Int32).toInt = 0 := by decide
  exact sX1_pickFirstFrom_5 τ b1 FU σ x2 0 hI (by omega) (by omega) (by omega) (by omega) (by omega)

theorem sX1_pickFirstFrom (τ : Nat) (b1 : Nat) (σ : S2) (a2 : Int32) (hI : IvC 0 τ σ) (p9000 : 0 ≤ a2.toInt) (p9001 : a2.toInt ≤ 999)  : Ok (fun z => IvC 0 τ z.2) (fX1_pickFirstFrom τ b1 σ a2) := by
  unfold fX1_pickFirstFrom
  exact sX1_pickFirstFrom_0 τ b1 σ a2 hI (by assumption) (by assumption)

theorem sX1_pickByJumps_2 (τ : Nat) (b1 : Nat) : ∀ (n : Nat) (σ : S2) (x2 : Int32) (x3 : Int32), IvC 0 τ σ → 0 ≤ x2.toInt → x2.toInt ≤ 999 → 0 ≤ x3.toInt → x3.toInt ≤ 12 → 12 - x3.toInt < (n : Int) → Ok (fun z => IvC 0 τ z.2) (fX1_pickByJumps_2 τ b1 n σ x2 x3) := by
  have hFU : ((FU : Nat) : Int) = 100000 := rfl
  intro n
  induction n with
  | zero => intro σ x2 x3 hI p9000 p9001 p9002 p9003 hm; exfalso; omega
  | succ n ih =>
    intro σ x2 x3 hI p9000 p9001 p9002 p9003 hm
    unfold fX1_pickByJumps_2
    have : (12 : Int32).toInt = 12 := by decide
    refine ok_le (fun h1 => ?_) (fun h1 => ?_)
    · exact ok_some hI
    · have := i32_rng (σ.1 14 6)
      have := i32_rng (σ.1 (182 + (6 * b1)) 0)
      refine ok_eq (fun h2 => ?_) (fun h2 => ?_)
      · exact ok_some hI
      · have : (1000 : Int32).toInt = 1000 := by decide
        refine ok_dz (by omega) ?_
        have : (333 : Int32).toInt = 333 := by decide
        have : ((333 * x3) : Int32).toInt = 333 * (x3 : Int32).toInt := i32_mulL (by omega) (by omega) (by omega)
        have : ((x2 + (333 * x3)) : Int32).toInt = (x2 : Int32).toInt + ((333 * x3) : Int32).toInt := i32_add (by omega) (by omega)
        have : (((x2 + (333 * x3)) - (((x2 + (333 * x3)) / 1000) * 1000)) : Int32).toInt = ((x2 + (333 * x3)) : Int32).toInt % 1000 := i32_rem (by first | decide | omega | rfl) (by omega) (by omega)
        refine ok_bs (sX1_pickFirstFrom τ b1 σ ((x2 + (333 * x3)) - (((x2 + (333 * x3)) / 1000) * 1000)) hI (by omega) (by omega)) (fun r2 σ3 hr3 => ?_)
        have hr3 : IvC 0 τ σ3 := hr3
        have : (1 : Int32).toInt = 1 := by decide
        have : ((x3 + 1) : Int32).toInt = (x3 : Int32).toInt + (1 : Int32).toInt := i32_add (by omega) (by omega)
        refine ok_nmI (fun v5 hv5 he5 => ?_)
        exact ih σ3 x2 v5 hr3 (by omega) (by omega) (by omega) (by omega) (by omega)

theorem sX1_pickByJumps_0 (τ : Nat) (b1 : Nat) (σ : S2) (x2 : Int32) (hI : IvC 0 τ σ) (p9000 : 0 ≤ x2.toInt) (p9001 : x2.toInt ≤ 999)  : Ok (fun z => IvC 0 τ z.2) (fX1_pickByJumps_0 τ b1 σ x2) := by
  have hFU : ((FU : Nat) : Int) = 100000 := rfl
  unfold fX1_pickByJumps_0
  have : (0 : Int32).toInt = 0 := by decide
  exact sX1_pickByJumps_2 τ b1 FU σ x2 0 hI (by omega) (by omega) (by omega) (by omega) (by omega)

theorem sX1_pickByJumps (τ : Nat) (b1 : Nat) (σ : S2) (a2 : Int32) (hI : IvC 0 τ σ) (p9000 : 0 ≤ a2.toInt) (p9001 : a2.toInt ≤ 999)  : Ok (fun z => IvC 0 τ z.2) (fX1_pickByJumps τ b1 σ a2) := by
  unfold fX1_pickByJumps
  exact sX1_pickByJumps_0 τ b1 σ a2 hI (by assumption) (by assumption)

theorem sX1_pickRound_55 (τ : Nat) (b1 : Nat) (k5 : S2 → Int32 → Int32 → Option (Unit × S2)) (σ : S2) (x3 : Int32) (x4 : Int32) (hI : IvC 0 τ σ) (p9000 : 0 ≤ x3.toInt) (p9001 : x3.toInt ≤ 999) (p9002 : 0 ≤ x4.toInt) (p9003 : x4.toInt ≤ 767) (hk5 : ∀ (y0 : S2) (y1 : Int32) (y2 : Int32), IvC 0 τ y0 → 0 ≤ y1.toInt → y1.toInt ≤ 999 → 0 ≤ y2.toInt → y2.toInt ≤ 768 → x4.toInt + 1 ≤ y2.toInt → Ok (fun z => IvC 0 τ z.2) (k5 y0 y1 y2)) : Ok (fun z => IvC 0 τ z.2) (fX1_pickRound_55 τ b1 k5 σ x3 x4) := by
  have hFU : ((FU : Nat) : Int) = 100000 := rfl
  unfold fX1_pickRound_55
  refine ok_bi (sX11_placeBehind τ σ x3 hI (by omega) (by omega)) (fun r1 hr1 => ?_)
  obtain ⟨p2, p3⟩ := hr1
  have p2 : 0 ≤ r1.toInt := p2
  have p3 : r1.toInt ≤ 999 := p3
  have : (1 : Int32).toInt = 1 := by decide
  have : ((x4 + 1) : Int32).toInt = (x4 : Int32).toInt + (1 : Int32).toInt := i32_add (by omega) (by omega)
  refine ok_nmI (fun v3 hv3 he4 => ?_)
  exact hk5 σ r1 v3 hI (by omega) (by omega) (by omega) (by omega) (by omega)

theorem sX1_pickRound_5 (τ : Nat) (b1 : Nat) : ∀ (n : Nat) (σ : S2) (x3 : Int32) (x4 : Int32), IvC 0 τ σ → 0 ≤ x3.toInt → x3.toInt ≤ 999 → 0 ≤ x4.toInt → x4.toInt ≤ 768 → 768 - x4.toInt < (n : Int) → Ok (fun z => IvC 0 τ z.2) (fX1_pickRound_5 τ b1 n σ x3 x4) := by
  have hFU : ((FU : Nat) : Int) = 100000 := rfl
  intro n
  induction n with
  | zero => intro σ x3 x4 hI p9000 p9001 p9002 p9003 hm; exfalso; omega
  | succ n ih =>
    intro σ x3 x4 hI p9000 p9001 p9002 p9003 hm
    unfold fX1_pickRound_5
    have : 0 ≤ (σ.1 (182 + (6 * b1)) 5).toInt ∧ (σ.1 (182 + (6 * b1)) 5).toInt ≤ 768 := hI.1.t0 b1 5
    refine ok_le (fun h1 => ?_) (fun h1 => ?_)
    · exact ok_some hI
    · have := i32_rng (σ.1 14 6)
      have := i32_rng (σ.1 (182 + (6 * b1)) 0)
      refine ok_eq (fun h2 => ?_) (fun h2 => ?_)
      · exact ok_some hI
      · refine ok_ck (by omega) (by omega) ?_
        have : 0 ≤ (σ.1 ((182 + (6 * b1)) + 5) (Int32.toNatClampNeg x3)).toInt ∧ (σ.1 ((182 + (6 * b1)) + 5) (Int32.toNatClampNeg x3)).toInt ≤ 999 := hI.1.t b1 5 (Int32.toNatClampNeg x3) (by decide)
        refine ok_nmI (fun v4 hv4 he3 => ?_)
        refine ok_ck (by omega) (by omega) ?_
        have : (-1) ≤ (σ.1 ((182 + (6 * b1)) + 4) (Int32.toNatClampNeg v4)).toInt ∧ (σ.1 ((182 + (6 * b1)) + 4) (Int32.toNatClampNeg v4)).toInt ≤ 11 := hI.1.t b1 4 (Int32.toNatClampNeg v4) (by decide)
        refine ok_nmI (fun v5 hv5 he4 => ?_)
        refine ok_bi (sX1_isPicked τ σ v5 hI (by omega) (by omega)) (fun r6 hr5 => ?_)
        obtain ⟨p6, p7⟩ := hr5
        have p6 : 0 ≤ r6.toInt := p6
        have p7 : r6.toInt ≤ 1 := p7
        have : (0 : Int32).toInt = 0 := by decide
        refine ok_eq (fun h8 => ?_) (fun h8 => ?_)
        · refine ok_ck (by omega) (by omega) ?_
          refine ok_nmI (fun v8 hv8 he9 => ?_)
          have : 0 ≤ v8.toInt := by rw [hv8, hv4]; exact hI.own b1 (by omega) (by omega) (by have := i32_nat (i := x3) (by omega); omega)
          refine ok_bs (sX1_takePick τ σ v8 hI (by omega) (by omega)) (fun r9 σ10 hr10 => ?_)
          have hr10 : IvC 0 τ σ10 := hr10
          exact sX1_pickRound_55 τ b1 (fX1_pickRound_5 τ b1 n) σ10 v4 x4 hr10 (by omega) (by omega) (by omega) (by omega) (fun y0 y1 y2 q0 q1 q2 q3 q4 q5 => ih y0 y1 y2 q0 q1 q2 q3 q4 (by omega))
        · exact sX1_pickRound_55 τ b1 (fX1_pickRound_5 τ b1 n) σ v4 x4 hI (by omega) (by omega) (by omega) (by omega) (fun y0 y1 y2 q0 q1 q2 q3 q4 q5 => ih y0 y1 y2 q0 q1 q2 q3 q4 (by omega))

theorem sX1_pickRound_0 (τ : Nat) (b1 : Nat) (σ : S2) (x2 : Int32) (hI : IvC 0 τ σ) (p9000 : 0 ≤ x2.toInt) (p9001 : x2.toInt ≤ 999)  : Ok (fun z => IvC 0 τ z.2) (fX1_pickRound_0 τ b1 σ x2) := by
  have hFU : ((FU : Nat) : Int) = 100000 := rfl
  unfold fX1_pickRound_0
  have : (0 : Int32).toInt = 0 := by decide
  exact sX1_pickRound_5 τ b1 FU σ x2 0 hI (by omega) (by omega) (by omega) (by omega) (by omega)

theorem sX1_pickRound (τ : Nat) (b1 : Nat) (σ : S2) (a2 : Int32) (hI : IvC 0 τ σ) (p9000 : 0 ≤ a2.toInt) (p9001 : a2.toInt ≤ 999)  : Ok (fun z => IvC 0 τ z.2) (fX1_pickRound τ b1 σ a2) := by
  unfold fX1_pickRound
  exact sX1_pickRound_0 τ b1 σ a2 hI (by assumption) (by assumption)

theorem sX1_pick_0 (τ : Nat) (b1 : Nat) (σ : S2) (x2 : Int32) (hI : IvC 0 τ σ) (p9000 : 0 ≤ x2.toInt) (p9001 : x2.toInt ≤ 999)  : Ok (fun z => IvC 0 τ z.2) (fX1_pick_0 τ b1 σ x2) := by
  have hFU : ((FU : Nat) : Int) = 100000 := rfl
  unfold fX1_pick_0
  have : (0 : Int32).toInt = 0 := by decide
  refine ok_nm (fun σ1 hs1 => ?_)
  have hI2 : IvC 0 τ σ1 := by rw [hs1]; exact IvC.wF hI (by decide) (by omega) (show 0 ≤ (0 : Int32).toInt by omega) (show (0 : Int32).toInt ≤ 12 by omega)
  have : (σ1.1 14 2).toInt = (0 : Int32).toInt := by rw [hs1]; rfl
  refine ok_nm (fun σ2 hs3 => ?_)
  have hI4 : IvC 0 τ σ2 := by rw [hs3]; exact IvC.wF hI2 (by decide) (by omega) (i32_rng _).1 (i32_rng _).2
  have : (σ2.1 14 2).toInt = (σ1.1 14 2).toInt := by rw [hs3]; rfl
  have : 0 ≤ (σ2.1 (182 + (6 * b1)) 4).toInt ∧ (σ2.1 (182 + (6 * b1)) 4).toInt ≤ 2 := hI4.1.t0 b1 4
  have : (1 : Int32).toInt = 1 := by decide
  refine ok_eq (fun h5 => ?_) (fun h5 => ?_)
  · refine ok_bs (sX1_pickBySums τ b1 σ2 x2 hI4 (by omega) (by omega) (by omega)) (fun r9 σ10 hr6 => ?_)
    have hr6 : IvC 0 τ σ10 := hr6
    exact ok_some hr6
  · have : (2 : Int32).toInt = 2 := by decide
    refine ok_eq (fun h8 => ?_) (fun h8 => ?_)
    · refine ok_bs (sX1_pickByJumps τ b1 σ2 x2 hI4 (by omega) (by omega)) (fun r6 σ7 hr9 => ?_)
      have hr9 : IvC 0 τ σ7 := hr9
      exact ok_some hr9
    · refine ok_bs (sX1_pickRound τ b1 σ2 x2 hI4 (by omega) (by omega)) (fun r3 σ4 hr11 => ?_)
      have hr11 : IvC 0 τ σ4 := hr11
      exact ok_some hr11

theorem sX1_pick (τ : Nat) (b1 : Nat) (σ : S2) (a2 : Int32) (hI : IvC 0 τ σ) (p9000 : 0 ≤ a2.toInt) (p9001 : a2.toInt ≤ 999)  : Ok (fun z => IvC 0 τ z.2) (fX1_pick τ b1 σ a2) := by
  unfold fX1_pick
  exact sX1_pick_0 τ b1 σ a2 hI (by assumption) (by assumption)

theorem sX1_takeChosen_0 (τ : Nat) (σ : S2) (x1 : Int32) (hI : IvC 0 τ σ) (p9000 : 0 ≤ x1.toInt) (p9001 : x1.toInt ≤ 11) (p9002 : 0 ≤ (σ.1 14 3).toInt) (p9003 : (σ.1 14 3).toInt ≤ 3)  : Ok (fun z => IvC 0 τ z.2) (fX1_takeChosen_0 τ σ x1) := by
  have hFU : ((FU : Nat) : Int) = 100000 := rfl
  unfold fX1_takeChosen_0
  have : 0 ≤ (σ.1 14 3).toInt ∧ (σ.1 14 3).toInt ≤ 4 := hI.1 14 3
  refine ok_ck (by omega) (by omega) ?_
  refine ok_nm (fun σ1 hs1 => ?_)
  have hI2 : IvC 0 τ σ1 := by rw [hs1]; exact IvC.wF hI (by decide) (by omega) (show 0 ≤ (x1 : Int32).toInt by omega) (show (x1 : Int32).toInt ≤ 11 by omega)
  have : (σ1.1 14 3).toInt = (σ.1 14 3).toInt := by rw [hs1]; rfl
  have : 0 ≤ (σ1.1 14 3).toInt ∧ (σ1.1 14 3).toInt ≤ 4 := hI2.1 14 3
  have : (1 : Int32).toInt = 1 := by decide
  have : (((σ1.1 14 3) + 1) : Int32).toInt = ((σ1.1 14 3) : Int32).toInt + (1 : Int32).toInt := i32_add (by omega) (by omega)
  refine ok_nm (fun σ2 hs3 => ?_)
  have hI4 : IvC 0 τ σ2 := by rw [hs3]; exact IvC.wF hI2 (by decide) (by omega) (show 0 ≤ (((σ1.1 14 3) + 1) : Int32).toInt by omega) (show (((σ1.1 14 3) + 1) : Int32).toInt ≤ 4 by omega)
  have : (σ2.1 14 3).toInt = (((σ1.1 14 3) + 1) : Int32).toInt := by rw [hs3]; rfl
  have := i32_rng (σ2.1 14 4)
  have : (31 : Int32).toInt = 31 := by decide
  have := i32_andR (a := x1) (m := 31) (by omega)
  have := i32_andL (a := x1) (m := 31) (by omega)
  have : 1 ≤ ((1 <<< (x1 &&& 31)) : Int32).toInt ∧ ((1 <<< (x1 &&& 31)) : Int32).toInt ≤ 2048 := i32_shlB 11 (by omega) (by omega) (by decide)
  have := i32_rng ((σ2.1 14 4) ||| (1 <<< (x1 &&& 31)))
  refine ok_nm (fun σ3 hs5 => ?_)
  have hI6 : IvC 0 τ σ3 := by rw [hs5]; exact IvC.wF hI4 (by decide) (by omega) (i32_rng _).1 (i32_rng _).2
  have : (σ3.1 14 3).toInt = (σ2.1 14 3).toInt := by rw [hs5]; rfl
  refine ok_ck (by omega) (by omega) ?_
  have : 0 ≤ (σ3.1 9 (Int32.toNatClampNeg x1)).toInt ∧ (σ3.1 9 (Int32.toNatClampNeg x1)).toInt ≤ 5 := hI6.1 9 (Int32.toNatClampNeg x1)
  refine ok_nmI (fun v4 hv4 he7 => ?_)
  have := i32_rng (σ3.1 14 5)
  have := i32_andR (a := v4) (m := 31) (by omega)
  have := i32_andL (a := v4) (m := 31) (by omega)
  have : 1 ≤ ((1 <<< (v4 &&& 31)) : Int32).toInt ∧ ((1 <<< (v4 &&& 31)) : Int32).toInt ≤ 32 := i32_shlB 5 (by omega) (by omega) (by decide)
  have := i32_rng ((σ3.1 14 5) ||| (1 <<< (v4 &&& 31)))
  refine ok_nm (fun σ5 hs8 => ?_)
  have hI9 : IvC 0 τ σ5 := by rw [hs8]; exact IvC.wF hI6 (by decide) (by omega) (i32_rng _).1 (i32_rng _).2
  have : (σ5.1 14 3).toInt = (σ3.1 14 3).toInt := by rw [hs8]; rfl
  have : (σ5.1 14 4).toInt = (σ3.1 14 4).toInt := by rw [hs8]; rfl
  exact ok_some hI9

theorem sX1_takeChosen (τ : Nat) (σ : S2) (a1 : Int32) (hI : IvC 0 τ σ) (p9000 : 0 ≤ a1.toInt) (p9001 : a1.toInt ≤ 11) (p9002 : 0 ≤ (σ.1 14 3).toInt) (p9003 : (σ.1 14 3).toInt ≤ 3)  : Ok (fun z => IvC 0 τ z.2) (fX1_takeChosen τ σ a1) := by
  unfold fX1_takeChosen
  exact sX1_takeChosen_0 τ σ a1 hI (by assumption) (by assumption) (by assumption) (by assumption)

theorem sX1_isChosen_0 (τ : Nat) (σ : S2) (x1 : Int32) (hI : IvC 0 τ σ) (p9000 : 0 ≤ x1.toInt) (p9001 : x1.toInt ≤ 11)  : Ok (fun z => 0 ≤ z.toInt ∧ z.toInt ≤ 1) (fX1_isChosen_0 τ σ x1) := by
  have hFU : ((FU : Nat) : Int) = 100000 := rfl
  unfold fX1_isChosen_0
  have := i32_rng (σ.1 14 4)
  have : (31 : Int32).toInt = 31 := by decide
  have := i32_andR (a := x1) (m := 31) (by omega)
  have := i32_andL (a := x1) (m := 31) (by omega)
  have := i32_rng ((σ.1 14 4) >>> (x1 &&& 31))
  have : (1 : Int32).toInt = 1 := by decide
  have := i32_andR (a := ((σ.1 14 4) >>> (x1 &&& 31))) (m := 1) (by omega)
  refine ok_eq (fun h1 => ?_) (fun h1 => ?_)
  · exact ok_some ⟨by show 0 ≤ (1 : Int32).toInt; omega, by show (1 : Int32).toInt ≤ 1; omega⟩
  · have : (0 : Int32).toInt = 0 := by decide
    exact ok_some ⟨by show 0 ≤ (0 : Int32).toInt; omega, by show (0 : Int32).toInt ≤ 1; omega⟩

theorem sX1_isChosen (τ : Nat) (σ : S2) (a1 : Int32) (hI : IvC 0 τ σ) (p9000 : 0 ≤ a1.toInt) (p9001 : a1.toInt ≤ 11)  : Ok (fun z => 0 ≤ z.toInt ∧ z.toInt ≤ 1) (fX1_isChosen τ σ a1) := by
  unfold fX1_isChosen
  exact sX1_isChosen_0 τ σ a1 hI (by assumption) (by assumption)

theorem sX1_choose_133 (τ : Nat) (b1 : Nat) (k91 : S2 → Int32 → Option (Unit × S2)) (σ : S2) (x3 : Int32) (hI : IvC 0 τ σ) (p9000 : 0 ≤ x3.toInt) (p9001 : x3.toInt ≤ 11) (hk91 : ∀ (y0 : S2) (y1 : Int32), IvC 0 τ y0 → 0 ≤ y1.toInt → y1.toInt ≤ 12 → x3.toInt + 1 ≤ y1.toInt → Ok (fun z => IvC 0 τ z.2) (k91 y0 y1)) : Ok (fun z => IvC 0 τ z.2) (fX1_choose_133 τ b1 k91 σ x3) := by
  have hFU : ((FU : Nat) : Int) = 100000 := rfl
  unfold fX1_choose_133
  have : (1 : Int32).toInt = 1 := by decide
  have : ((x3 + 1) : Int32).toInt = (x3 : Int32).toInt + (1 : Int32).toInt := i32_add (by omega) (by omega)
  refine ok_nmI (fun v1 hv1 he1 => ?_)
  exact hk91 σ v1 hI (by omega) (by omega) (by omega)

theorem sX1_choose_91 (τ : Nat) (b1 : Nat) : ∀ (n : Nat) (σ : S2) (x3 : Int32), IvC 0 τ σ → 0 ≤ x3.toInt → x3.toInt ≤ 12 → 12 - x3.toInt < (n : Int) → Ok (fun z => IvC 0 τ z.2) (fX1_choose_91 τ b1 n σ x3) := by
  have hFU : ((FU : Nat) : Int) = 100000 := rfl
  intro n
  induction n with
  | zero => intro σ x3 hI p9000 p9001 hm; exfalso; omega
  | succ n ih =>
    intro σ x3 hI p9000 p9001 hm
    unfold fX1_choose_91
    have : 0 ≤ (σ.1 14 2).toInt ∧ (σ.1 14 2).toInt ≤ 12 := hI.1 14 2
    refine ok_le (fun h1 => ?_) (fun h1 => ?_)
    · exact ok_some hI
    · have : 1 ≤ (σ.1 (182 + (6 * b1)) 2).toInt ∧ (σ.1 (182 + (6 * b1)) 2).toInt ≤ 4 := hI.1.t0 b1 2
      have : 0 ≤ (σ.1 14 3).toInt ∧ (σ.1 14 3).toInt ≤ 4 := hI.1 14 3
      refine ok_le (fun h2 => ?_) (fun h2 => ?_)
      · exact ok_some hI
      · refine ok_ck (by omega) (by omega) ?_
        have : 0 ≤ (σ.1 15 (Int32.toNatClampNeg x3)).toInt ∧ (σ.1 15 (Int32.toNatClampNeg x3)).toInt ≤ 11 := hI.1 15 (Int32.toNatClampNeg x3)
        refine ok_nmI (fun v2 hv2 he3 => ?_)
        refine ok_bi (sX1_isChosen τ σ v2 hI (by omega) (by omega)) (fun r3 hr4 => ?_)
        obtain ⟨p5, p6⟩ := hr4
        have p5 : 0 ≤ r3.toInt := p5
        have p6 : r3.toInt ≤ 1 := p6
        have : (0 : Int32).toInt = 0 := by decide
        refine ok_eq (fun h7 => ?_) (fun h7 => ?_)
        · refine ok_ck (by omega) (by omega) ?_
          refine ok_nmI (fun v5 hv5 he8 => ?_)
          refine ok_bs (sX1_takeChosen τ σ v5 hI (by omega) (by omega) (by omega) (by omega)) (fun r6 σ7 hr9 => ?_)
          have hr9 : IvC 0 τ σ7 := hr9
          exact sX1_choose_133 τ b1 (fX1_choose_91 τ b1 n) σ7 x3 hr9 (by omega) (by omega) (fun y0 y1 q0 q1 q2 q3 => ih y0 y1 q0 q1 q2 (by omega))
        · exact sX1_choose_133 τ b1 (fX1_choose_91 τ b1 n) σ x3 hI (by omega) (by omega) (fun y0 y1 q0 q1 q2 q3 => ih y0 y1 q0 q1 q2 (by omega))

theorem sX1_choose_89 (τ : Nat) (b1 : Nat) (σ : S2) (hI : IvC 0 τ σ)   : Ok (fun z => IvC 0 τ z.2) (fX1_choose_89 τ b1 σ) := by
  have hFU : ((FU : Nat) : Int) = 100000 := rfl
  unfold fX1_choose_89
  have : (0 : Int32).toInt = 0 := by decide
  exact sX1_choose_91 τ b1 FU σ 0 hI (by omega) (by omega) (by omega)

theorem sX1_choose_83 (τ : Nat) (b1 : Nat) (k23 : S2 → Int32 → Option (Unit × S2)) (σ : S2) (x3 : Int32) (hI : IvC 0 τ σ) (p9000 : 0 ≤ x3.toInt) (p9001 : x3.toInt ≤ 11) (hk23 : ∀ (y0 : S2) (y1 : Int32), IvC 0 τ y0 → 0 ≤ y1.toInt → y1.toInt ≤ 12 → x3.toInt + 1 ≤ y1.toInt → Ok (fun z => IvC 0 τ z.2) (k23 y0 y1)) : Ok (fun z => IvC 0 τ z.2) (fX1_choose_83 τ b1 k23 σ x3) := by
  have hFU : ((FU : Nat) : Int) = 100000 := rfl
  unfold fX1_choose_83
  have : (1 : Int32).toInt = 1 := by decide
  have : ((x3 + 1) : Int32).toInt = (x3 : Int32).toInt + (1 : Int32).toInt := i32_add (by omega) (by omega)
  refine ok_nmI (fun v9 hv9 he1 => ?_)
  exact hk23 σ v9 hI (by omega) (by omega) (by omega)

theorem sX1_choose_23 (τ : Nat) (b1 : Nat) : ∀ (n : Nat) (σ : S2) (x3 : Int32), IvC 0 τ σ → 0 ≤ x3.toInt → x3.toInt ≤ 12 → 12 - x3.toInt < (n : Int) → Ok (fun z => IvC 0 τ z.2) (fX1_choose_23 τ b1 n σ x3) := by
  have hFU : ((FU : Nat) : Int) = 100000 := rfl
  intro n
  induction n with
  | zero => intro σ x3 hI p9000 p9001 hm; exfalso; omega
  | succ n ih =>
    intro σ x3 hI p9000 p9001 hm
    unfold fX1_choose_23
    have : 0 ≤ (σ.1 14 2).toInt ∧ (σ.1 14 2).toInt ≤ 12 := hI.1 14 2
    refine ok_le (fun h1 => ?_) (fun h1 => ?_)
    · exact sX1_choose_89 τ b1 σ hI
    · have : 1 ≤ (σ.1 (182 + (6 * b1)) 3).toInt ∧ (σ.1 (182 + (6 * b1)) 3).toInt ≤ 4 := hI.1.t0 b1 3
      have : 1 ≤ (σ.1 (182 + (6 * b1)) 2).toInt ∧ (σ.1 (182 + (6 * b1)) 2).toInt ≤ 4 := hI.1.t0 b1 2
      have := i32_iflt (σ.1 (182 + (6 * b1)) 3) (σ.1 (182 + (6 * b1)) 2) (σ.1 (182 + (6 * b1)) 3) (σ.1 (182 + (6 * b1)) 2)
      have : 0 ≤ (σ.1 14 3).toInt ∧ (σ.1 14 3).toInt ≤ 4 := hI.1 14 3
      refine ok_le (fun h2 => ?_) (fun h2 => ?_)
      · exact sX1_choose_89 τ b1 σ hI
      · refine ok_ck (by omega) (by omega) ?_
        have : 0 ≤ (σ.1 15 (Int32.toNatClampNeg x3)).toInt ∧ (σ.1 15 (Int32.toNatClampNeg x3)).toInt ≤ 11 := hI.1 15 (Int32.toNatClampNeg x3)
        refine ok_nmI (fun v10 hv10 he3 => ?_)
        refine ok_ck (by omega) (by omega) ?_
        have : 0 ≤ (σ.1 9 (Int32.toNatClampNeg v10)).toInt ∧ (σ.1 9 (Int32.toNatClampNeg v10)).toInt ≤ 5 := hI.1 9 (Int32.toNatClampNeg v10)
        refine ok_nmI (fun v11 hv11 he4 => ?_)
        have := i32_rng (σ.1 14 5)
        have : (31 : Int32).toInt = 31 := by decide
        have := i32_andR (a := v11) (m := 31) (by omega)
        have := i32_andL (a := v11) (m := 31) (by omega)
        have := i32_rng ((σ.1 14 5) >>> (v11 &&& 31))
        have : (1 : Int32).toInt = 1 := by decide
        have := i32_andR (a := ((σ.1 14 5) >>> (v11 &&& 31))) (m := 1) (by omega)
        have : (0 : Int32).toInt = 0 := by decide
        refine ok_eq (fun h5 => ?_) (fun h5 => ?_)
        · refine ok_ck (by omega) (by omega) ?_
          refine ok_nmI (fun v12 hv12 he6 => ?_)
          refine ok_bs (sX1_takeChosen τ σ v12 hI (by omega) (by omega) (by omega) (by omega)) (fun r13 σ14 hr7 => ?_)
          have hr7 : IvC 0 τ σ14 := hr7
          exact sX1_choose_83 τ b1 (fX1_choose_23 τ b1 n) σ14 x3 hr7 (by omega) (by omega) (fun y0 y1 q0 q1 q2 q3 => ih y0 y1 q0 q1 q2 (by omega))
        · exact sX1_choose_83 τ b1 (fX1_choose_23 τ b1 n) σ x3 hI (by omega) (by omega) (fun y0 y1 q0 q1 q2 q3 => ih y0 y1 q0 q1 q2 (by omega))

theorem sX1_choose_0 (τ : Nat) (b1 : Nat) (σ : S2) (x2 : Int32) (hI : IvC 0 τ σ) (p9000 : 0 ≤ x2.toInt) (p9001 : x2.toInt ≤ 999)  : Ok (fun z => IvC 0 τ z.2) (fX1_choose_0 τ b1 σ x2) := by
  have hFU : ((FU : Nat) : Int) = 100000 := rfl
  unfold fX1_choose_0
  refine ok_bs (sX1_pick τ b1 σ x2 hI (by omega) (by omega)) (fun r16 σ17 hr1 => ?_)
  have hr1 : IvC 0 τ σ17 := hr1
  have : (0 : Int32).toInt = 0 := by decide
  refine ok_nm (fun σ19 hs3 => ?_)
  have hI4 : IvC 0 τ σ19 := by rw [hs3]; exact IvC.wF hr1 (by decide) (by omega) (show 0 ≤ (0 : Int32).toInt by omega) (show (0 : Int32).toInt ≤ 4 by omega)
  have : (σ19.1 14 3).toInt = (0 : Int32).toInt := by rw [hs3]; rfl
  have : (σ19.1 14 2).toInt = (σ17.1 14 2).toInt := by rw [hs3]; rfl
  refine ok_nm (fun σ20 hs5 => ?_)
  have hI6 : IvC 0 τ σ20 := by rw [hs5]; exact IvC.wF hI4 (by decide) (by omega) (i32_rng _).1 (i32_rng _).2
  have : (σ20.1 14 3).toInt = (σ19.1 14 3).toInt := by rw [hs5]; rfl
  have : (σ20.1 14 2).toInt = (σ19.1 14 2).toInt := by rw [hs5]; rfl
  refine ok_nm (fun σ21 hs7 => ?_)
  have hI8 : IvC 0 τ σ21 := by rw [hs7]; exact IvC.wF hI6 (by decide) (by omega) (i32_rng _).1 (i32_rng _).2
  have : (σ21.1 14 3).toInt = (σ20.1 14 3).toInt := by rw [hs7]; rfl
  have : (σ21.1 14 2).toInt = (σ20.1 14 2).toInt := by rw [hs7]; rfl
  have : (σ21.1 14 4).toInt = (σ20.1 14 4).toInt := by rw [hs7]; rfl
  exact sX1_choose_23 τ b1 FU σ21 0 hI8 (by omega) (by omega) (by omega)

theorem sX1_choose (τ : Nat) (b1 : Nat) (σ : S2) (a2 : Int32) (hI : IvC 0 τ σ) (p9000 : 0 ≤ a2.toInt) (p9001 : a2.toInt ≤ 999)  : Ok (fun z => IvC 0 τ z.2) (fX1_choose τ b1 σ a2) := by
  unfold fX1_choose
  exact sX1_choose_0 τ b1 σ a2 hI (by assumption) (by assumption)

theorem sX2_has_0 (τ : Nat) (σ : S2) (x1 : Int32) (hI : IvC 0 τ σ)   : Ok (fun z => 0 ≤ z.toInt ∧ z.toInt ≤ 1 ∧ (z.toInt ≠ 0 → 0 ≤ x1.toInt ∧ x1.toInt < (σ.1 7 5).toInt)) (fX2_has_0 τ σ x1) := by
  have hFU : ((FU : Nat) : Int) = 100000 := rfl
  unfold fX2_has_0
  have := i32_rng x1
  have : (0 : Int32).toInt = 0 := by decide
  refine ok_lt (fun h1 => ?_) (fun h1 => ?_)
  · exact ok_some ⟨by show 0 ≤ (0 : Int32).toInt; omega, by show (0 : Int32).toInt ≤ 1; omega, by show (0 : Int32).toInt ≠ 0 → 0 ≤ x1.toInt ∧ x1.toInt < (σ.1 7 5).toInt; omega⟩
  · have : 0 ≤ (σ.1 7 5).toInt ∧ (σ.1 7 5).toInt ≤ 12 := hI.1 7 5
    refine ok_le (fun h2 => ?_) (fun h2 => ?_)
    · exact ok_some ⟨by show 0 ≤ (0 : Int32).toInt; omega, by show (0 : Int32).toInt ≤ 1; omega, by show (0 : Int32).toInt ≠ 0 → 0 ≤ x1.toInt ∧ x1.toInt < (σ.1 7 5).toInt; omega⟩
    · have : (1 : Int32).toInt = 1 := by decide
      exact ok_some ⟨by show 0 ≤ (1 : Int32).toInt; omega, by show (1 : Int32).toInt ≤ 1; omega, by show (1 : Int32).toInt ≠ 0 → 0 ≤ x1.toInt ∧ x1.toInt < (σ.1 7 5).toInt; omega⟩

theorem sX2_has (τ : Nat) (σ : S2) (a1 : Int32) (hI : IvC 0 τ σ)   : Ok (fun z => 0 ≤ z.toInt ∧ z.toInt ≤ 1 ∧ (z.toInt ≠ 0 → 0 ≤ a1.toInt ∧ a1.toInt < (σ.1 7 5).toInt)) (fX2_has τ σ a1) := by
  unfold fX2_has
  exact sX2_has_0 τ σ a1 hI

theorem sX2_add_0 (τ : Nat) (σ : S2) (x1 : Int32) (x2 : Int32) (hI : IvC 0 τ σ) (p9000 : 0 ≤ x1.toInt) (p9001 : x1.toInt ≤ 5) (p9002 : 1 ≤ x2.toInt) (p9003 : x2.toInt ≤ 8) (p9004 : 0 ≤ (σ.1 7 5).toInt) (p9005 : (σ.1 7 5).toInt ≤ 11)  : Ok (fun z => IvC 0 τ z.2 ∧ 0 ≤ z.1.toInt ∧ z.1.toInt ≤ 11) (fX2_add_0 τ σ x1 x2) := by
  have hFU : ((FU : Nat) : Int) = 100000 := rfl
  unfold fX2_add_0
  have : 0 ≤ (σ.1 7 5).toInt ∧ (σ.1 7 5).toInt ≤ 12 := hI.1 7 5
  refine ok_ck (by omega) (by omega) ?_
  have : (0 : Int32).toInt = 0 := by decide
  refine ok_nm (fun σ1 hs1 => ?_)
  have hI2 : IvC 0 τ σ1 := by rw [hs1]; exact IvC.wF hI (by decide) (by omega) (show 0 ≤ (0 : Int32).toInt by omega) (show (0 : Int32).toInt ≤ 6 by omega)
  have : (σ1.1 7 5).toInt = (σ.1 7 5).toInt := by rw [hs1]; rfl
  have : 0 ≤ (σ1.1 7 5).toInt ∧ (σ1.1 7 5).toInt ≤ 12 := hI2.1 7 5
  refine ok_ck (by omega) (by omega) ?_
  refine ok_nm (fun σ2 hs3 => ?_)
  have hI4 : IvC 0 τ σ2 := by rw [hs3]; exact IvC.wF hI2 (by decide) (by omega) (show 0 ≤ (x1 : Int32).toInt by omega) (show (x1 : Int32).toInt ≤ 5 by omega)
  have : (σ2.1 7 5).toInt = (σ1.1 7 5).toInt := by rw [hs3]; rfl
  have : 0 ≤ (σ2.1 7 5).toInt ∧ (σ2.1 7 5).toInt ≤ 12 := hI4.1 7 5
  refine ok_ck (by omega) (by omega) ?_
  refine ok_nm (fun σ3 hs5 => ?_)
  have hI6 : IvC 0 τ σ3 := by rw [hs5]; exact IvC.wF hI4 (by decide) (by omega) (show 0 ≤ (x2 : Int32).toInt by omega) (show (x2 : Int32).toInt ≤ 8 by omega)
  have : (σ3.1 7 5).toInt = (σ2.1 7 5).toInt := by rw [hs5]; rfl
  have : 0 ≤ (σ3.1 7 5).toInt ∧ (σ3.1 7 5).toInt ≤ 12 := hI6.1 7 5
  refine ok_ck (by omega) (by omega) ?_
  have : ((-1) : Int32).toInt = (-1) := by decide
  refine ok_nm (fun σ4 hs7 => ?_)
  have hI8 : IvC 0 τ σ4 := by rw [hs7]; exact IvC.wF hI6 (by decide) (by omega) (show (-1) ≤ ((-1) : Int32).toInt by omega) (show ((-1) : Int32).toInt ≤ 9 by omega)
  have : (σ4.1 7 5).toInt = (σ3.1 7 5).toInt := by rw [hs7]; rfl
  have : 0 ≤ (σ4.1 7 5).toInt ∧ (σ4.1 7 5).toInt ≤ 12 := hI8.1 7 5
  have : (1 : Int32).toInt = 1 := by decide
  have : (((σ4.1 7 5) + 1) : Int32).toInt = ((σ4.1 7 5) : Int32).toInt + (1 : Int32).toInt := i32_add (by omega) (by omega)
  refine ok_nm (fun σ5 hs9 => ?_)
  have hI10 : IvC 0 τ σ5 := by rw [hs9]; exact IvC.wF hI8 (by decide) (by omega) (show 0 ≤ (((σ4.1 7 5) + 1) : Int32).toInt by omega) (show (((σ4.1 7 5) + 1) : Int32).toInt ≤ 12 by omega)
  have : (σ5.1 7 5).toInt = (((σ4.1 7 5) + 1) : Int32).toInt := by rw [hs9]; rfl
  have : 0 ≤ (σ5.1 7 5).toInt ∧ (σ5.1 7 5).toInt ≤ 12 := hI10.1 7 5
  have : (((σ5.1 7 5) - 1) : Int32).toInt = ((σ5.1 7 5) : Int32).toInt - (1 : Int32).toInt := i32_sub (by omega) (by omega)
  exact ok_some ⟨hI10, by show 0 ≤ ((σ5.1 7 5) - 1).toInt; omega, by show ((σ5.1 7 5) - 1).toInt ≤ 11; omega⟩

theorem sX2_add (τ : Nat) (σ : S2) (a1 : Int32) (a2 : Int32) (hI : IvC 0 τ σ) (p9000 : 0 ≤ a1.toInt) (p9001 : a1.toInt ≤ 5) (p9002 : 1 ≤ a2.toInt) (p9003 : a2.toInt ≤ 8) (p9004 : 0 ≤ (σ.1 7 5).toInt) (p9005 : (σ.1 7 5).toInt ≤ 11)  : Ok (fun z => IvC 0 τ z.2 ∧ 0 ≤ z.1.toInt ∧ z.1.toInt ≤ 11) (fX2_add τ σ a1 a2) := by
  unfold fX2_add
  exact sX2_add_0 τ σ a1 a2 hI (by assumption) (by assumption) (by assumption) (by assumption) (by assumption) (by assumption)

theorem sX2_counting_26 (τ : Nat) (σ : S2) (x1 : Int32) (s0 : Int32) (hI : IvC 0 τ σ) (p9000 : 0 ≤ x1.toInt) (p9001 : x1.toInt ≤ 11) (p9002 : 0 ≤ s0.toInt) (p9003 : s0.toInt ≤ 1)  : Ok (fun z => 0 ≤ z.toInt ∧ z.toInt ≤ 16) (fX2_counting_26 τ σ x1 s0) := by
  have hFU : ((FU : Nat) : Int) = 100000 := rfl
  unfold fX2_counting_26
  have : (0 : Int32).toInt = 0 := by decide
  refine ok_eq (fun h1 => ?_) (fun h1 => ?_)
  · refine ok_ck (by omega) (by omega) ?_
    have : 0 ≤ (σ.1 10 (Int32.toNatClampNeg x1)).toInt ∧ (σ.1 10 (Int32.toNatClampNeg x1)).toInt ≤ 8 := hI.1 10 (Int32.toNatClampNeg x1)
    refine ok_nmI (fun v1 hv1 he2 => ?_)
    exact ok_some ⟨by show 0 ≤ v1.toInt; omega, by show v1.toInt ≤ 16; omega⟩
  · refine ok_ck (by omega) (by omega) ?_
    have : 0 ≤ (σ.1 10 (Int32.toNatClampNeg x1)).toInt ∧ (σ.1 10 (Int32.toNatClampNeg x1)).toInt ≤ 8 := hI.1 10 (Int32.toNatClampNeg x1)
    refine ok_nmI (fun v2 hv2 he3 => ?_)
    have : (2 : Int32).toInt = 2 := by decide
    have : ((2 * v2) : Int32).toInt = 2 * (v2 : Int32).toInt := i32_mulL (by omega) (by omega) (by omega)
    exact ok_some ⟨by show 0 ≤ (2 * v2).toInt; omega, by show (2 * v2).toInt ≤ 16; omega⟩

theorem sX2_counting_21 (τ : Nat) (σ : S2) (x1 : Int32) (hI : IvC 0 τ σ) (p9000 : 0 ≤ x1.toInt) (p9001 : x1.toInt ≤ 11)  : Ok (fun z => 0 ≤ z.toInt ∧ z.toInt ≤ 16) (fX2_counting_21 τ σ x1) := by
  have hFU : ((FU : Nat) : Int) = 100000 := rfl
  unfold fX2_counting_21
  have : (1 : Int32).toInt = 1 := by decide
  exact sX2_counting_26 τ σ x1 1 hI (by omega) (by omega) (by omega) (by omega)

theorem sX2_counting_0 (τ : Nat) (σ : S2) (x1 : Int32) (hI : IvC 0 τ σ) (p9000 : 0 ≤ x1.toInt) (p9001 : x1.toInt ≤ 11)  : Ok (fun z => 0 ≤ z.toInt ∧ z.toInt ≤ 16) (fX2_counting_0 τ σ x1) := by
  have hFU : ((FU : Nat) : Int) = 100000 := rfl
  unfold fX2_counting_0
  refine ok_ck (by omega) (by omega) ?_
  have : 0 ≤ (σ.1 8 (Int32.toNatClampNeg x1)).toInt ∧ (σ.1 8 (Int32.toNatClampNeg x1)).toInt ≤ 6 := hI.1 8 (Int32.toNatClampNeg x1)
  refine ok_nmI (fun v3 hv3 he1 => ?_)
  have : (1 : Int32).toInt = 1 := by decide
  refine ok_eq (fun h2 => ?_) (fun h2 => ?_)
  · exact sX2_counting_21 τ σ x1 hI (by omega) (by omega)
  · refine ok_ck (by omega) (by omega) ?_
    refine ok_nmI (fun v4 hv4 he3 => ?_)
    have : (6 : Int32).toInt = 6 := by decide
    refine ok_eq (fun h4 => ?_) (fun h4 => ?_)
    · exact sX2_counting_21 τ σ x1 hI (by omega) (by omega)
    · have : (0 : Int32).toInt = 0 := by decide
      exact sX2_counting_26 τ σ x1 0 hI (by omega) (by omega) (by omega) (by omega)

theorem sX2_counting (τ : Nat) (σ : S2) (a1 : Int32) (hI : IvC 0 τ σ) (p9000 : 0 ≤ a1.toInt) (p9001 : a1.toInt ≤ 11)  : Ok (fun z => 0 ≤ z.toInt ∧ z.toInt ≤ 16) (fX2_counting τ σ a1) := by
  unfold fX2_counting
  exact sX2_counting_0 τ σ a1 hI (by assumption) (by assumption)

theorem sX2_isUp_0 (τ : Nat) (σ : S2) (x1 : Int32) (hI : IvC 0 τ σ) (p9000 : 0 ≤ x1.toInt) (p9001 : x1.toInt ≤ 11)  : Ok (fun z => 0 ≤ z.toInt ∧ z.toInt ≤ 1) (fX2_isUp_0 τ σ x1) := by
  have hFU : ((FU : Nat) : Int) = 100000 := rfl
  unfold fX2_isUp_0
  refine ok_ck (by omega) (by omega) ?_
  have : 0 ≤ (σ.1 12 (Int32.toNatClampNeg x1)).toInt ∧ (σ.1 12 (Int32.toNatClampNeg x1)).toInt ≤ 1 := hI.1 12 (Int32.toNatClampNeg x1)
  refine ok_nmI (fun v1 hv1 he1 => ?_)
  have : (0 : Int32).toInt = 0 := by decide
  refine ok_eq (fun h2 => ?_) (fun h2 => ?_)
  · refine ok_ck (by omega) (by omega) ?_
    have : 0 ≤ (σ.1 8 (Int32.toNatClampNeg x1)).toInt ∧ (σ.1 8 (Int32.toNatClampNeg x1)).toInt ≤ 6 := hI.1 8 (Int32.toNatClampNeg x1)
    refine ok_nmI (fun v2 hv2 he3 => ?_)
    have : (4 : Int32).toInt = 4 := by decide
    refine ok_eq (fun h4 => ?_) (fun h4 => ?_)
    · exact ok_some ⟨by show 0 ≤ (0 : Int32).toInt; omega, by show (0 : Int32).toInt ≤ 1; omega⟩
    · have : (1 : Int32).toInt = 1 := by decide
      exact ok_some ⟨by show 0 ≤ (1 : Int32).toInt; omega, by show (1 : Int32).toInt ≤ 1; omega⟩
  · exact ok_some ⟨by show 0 ≤ (0 : Int32).toInt; omega, by show (0 : Int32).toInt ≤ 1; omega⟩

theorem sX2_isUp (τ : Nat) (σ : S2) (a1 : Int32) (hI : IvC 0 τ σ) (p9000 : 0 ≤ a1.toInt) (p9001 : a1.toInt ≤ 11)  : Ok (fun z => 0 ≤ z.toInt ∧ z.toInt ≤ 1) (fX2_isUp τ σ a1) := by
  unfold fX2_isUp
  exact sX2_isUp_0 τ σ a1 hI (by assumption) (by assumption)

theorem sJ6_bitCount_0f7a4_0 (τ : Nat) (σ : S2) (x0 : Int32) (hI : IvC 0 τ σ)   : Ok (fun z => 0 ≤ z.toInt ∧ z.toInt ≤ 63) (fJ6_bitCount_0f7a4_0 τ σ x0) := by
  have hFU : ((FU : Nat) : Int) = 100000 := rfl
  unfold fJ6_bitCount_0f7a4_0
  have := i32_rng x0
  have : 0 ≤ ((UInt32.toInt32 ((Int32.toUInt32 x0) >>> ((Int32.toUInt32 1) &&& (Int32.toUInt32 31)))) : Int32).toInt ∧ ((UInt32.toInt32 ((Int32.toUInt32 x0) >>> ((Int32.toUInt32 1) &&& (Int32.toUInt32 31)))) : Int32).toInt ≤ 2147483647 := i32_ushr 1 (by decide) (by decide)
  have : (1431655765 : Int32).toInt = 1431655765 := by decide
  have := i32_andR (a := (UInt32.toInt32 ((Int32.toUInt32 x0) >>> ((Int32.toUInt32 1) &&& (Int32.toUInt32 31))))) (m := 1431655765) (by omega)
  have := i32_rng (x0 - ((UInt32.toInt32 ((Int32.toUInt32 x0) >>> ((Int32.toUInt32 1) &&& (Int32.toUInt32 31)))) &&& 1431655765))
  refine ok_nmI (fun v1 hv1 he1 => ?_)
  have := i32_rng v1
  have : (858993459 : Int32).toInt = 858993459 := by decide
  have := i32_andR (a := v1) (m := 858993459) (by omega)
  have : 0 ≤ ((UInt32.toInt32 ((Int32.toUInt32 v1) >>> ((Int32.toUInt32 2) &&& (Int32.toUInt32 31)))) : Int32).toInt ∧ ((UInt32.toInt32 ((Int32.toUInt32 v1) >>> ((Int32.toUInt32 2) &&& (Int32.toUInt32 31)))) : Int32).toInt ≤ 1073741823 := i32_ushr 2 (by decide) (by decide)
  have := i32_andR (a := (UInt32.toInt32 ((Int32.toUInt32 v1) >>> ((Int32.toUInt32 2) &&& (Int32.toUInt32 31))))) (m := 858993459) (by omega)
  have : (((v1 &&& 858993459) + ((UInt32.toInt32 ((Int32.toUInt32 v1) >>> ((Int32.toUInt32 2) &&& (Int32.toUInt32 31)))) &&& 858993459)) : Int32).toInt = ((v1 &&& 858993459) : Int32).toInt + (((UInt32.toInt32 ((Int32.toUInt32 v1) >>> ((Int32.toUInt32 2) &&& (Int32.toUInt32 31)))) &&& 858993459) : Int32).toInt := i32_add (by omega) (by omega)
  refine ok_nmI (fun v2 hv2 he2 => ?_)
  have : 0 ≤ ((UInt32.toInt32 ((Int32.toUInt32 v2) >>> ((Int32.toUInt32 4) &&& (Int32.toUInt32 31)))) : Int32).toInt ∧ ((UInt32.toInt32 ((Int32.toUInt32 v2) >>> ((Int32.toUInt32 4) &&& (Int32.toUInt32 31)))) : Int32).toInt ≤ 268435455 := i32_ushr 4 (by decide) (by decide)
  have : ((v2 + (UInt32.toInt32 ((Int32.toUInt32 v2) >>> ((Int32.toUInt32 4) &&& (Int32.toUInt32 31))))) : Int32).toInt = (v2 : Int32).toInt + ((UInt32.toInt32 ((Int32.toUInt32 v2) >>> ((Int32.toUInt32 4) &&& (Int32.toUInt32 31)))) : Int32).toInt := i32_add (by omega) (by omega)
  have : (252645135 : Int32).toInt = 252645135 := by decide
  have := i32_andR (a := (v2 + (UInt32.toInt32 ((Int32.toUInt32 v2) >>> ((Int32.toUInt32 4) &&& (Int32.toUInt32 31)))))) (m := 252645135) (by omega)
  refine ok_nmI (fun v3 hv3 he3 => ?_)
  have : 0 ≤ ((UInt32.toInt32 ((Int32.toUInt32 v3) >>> ((Int32.toUInt32 8) &&& (Int32.toUInt32 31)))) : Int32).toInt ∧ ((UInt32.toInt32 ((Int32.toUInt32 v3) >>> ((Int32.toUInt32 8) &&& (Int32.toUInt32 31)))) : Int32).toInt ≤ 16777215 := i32_ushr 8 (by decide) (by decide)
  have : ((v3 + (UInt32.toInt32 ((Int32.toUInt32 v3) >>> ((Int32.toUInt32 8) &&& (Int32.toUInt32 31))))) : Int32).toInt = (v3 : Int32).toInt + ((UInt32.toInt32 ((Int32.toUInt32 v3) >>> ((Int32.toUInt32 8) &&& (Int32.toUInt32 31)))) : Int32).toInt := i32_add (by omega) (by omega)
  refine ok_nmI (fun v4 hv4 he4 => ?_)
  have : 0 ≤ ((UInt32.toInt32 ((Int32.toUInt32 v4) >>> ((Int32.toUInt32 16) &&& (Int32.toUInt32 31)))) : Int32).toInt ∧ ((UInt32.toInt32 ((Int32.toUInt32 v4) >>> ((Int32.toUInt32 16) &&& (Int32.toUInt32 31)))) : Int32).toInt ≤ 65535 := i32_ushr 16 (by decide) (by decide)
  have : ((v4 + (UInt32.toInt32 ((Int32.toUInt32 v4) >>> ((Int32.toUInt32 16) &&& (Int32.toUInt32 31))))) : Int32).toInt = (v4 : Int32).toInt + ((UInt32.toInt32 ((Int32.toUInt32 v4) >>> ((Int32.toUInt32 16) &&& (Int32.toUInt32 31)))) : Int32).toInt := i32_add (by omega) (by omega)
  refine ok_nmI (fun v5 hv5 he5 => ?_)
  have : (63 : Int32).toInt = 63 := by decide
  have := i32_andR (a := v5) (m := 63) (by omega)
  exact ok_some ⟨by show 0 ≤ (v5 &&& 63).toInt; omega, by show (v5 &&& 63).toInt ≤ 63; omega⟩

theorem sJ6_bitCount_0f7a4 (τ : Nat) (σ : S2) (a0 : Int32) (hI : IvC 0 τ σ)   : Ok (fun z => 0 ≤ z.toInt ∧ z.toInt ≤ 63) (fJ6_bitCount_0f7a4 τ σ a0) := by
  unfold fJ6_bitCount_0f7a4
  exact sJ6_bitCount_0f7a4_0 τ σ a0 hI

theorem sX3_look_94 (τ : Nat) (k26 : S2 → Int32 → Int32 → Option (Unit × S2)) (σ : S2) (x3 : Int32) (x4 : Int32) (hI : IvC 0 τ σ) (p9000 : 0 ≤ x3.toInt) (p9001 : x3.toInt ≤ 63) (p9002 : 0 ≤ x4.toInt) (p9003 : x4.toInt ≤ 11) (hk26 : ∀ (y0 : S2) (y1 : Int32) (y2 : Int32), IvC 0 τ y0 → 0 ≤ y1.toInt → y1.toInt ≤ 63 → 0 ≤ y2.toInt → y2.toInt ≤ 12 → x4.toInt + 1 ≤ y2.toInt → Ok (fun z => IvC 0 τ z.2) (k26 y0 y1 y2)) : Ok (fun z => IvC 0 τ z.2) (fX3_look_94 τ k26 σ x3 x4) := by
  have hFU : ((FU : Nat) : Int) = 100000 := rfl
  unfold fX3_look_94
  have : (1 : Int32).toInt = 1 := by decide
  have : ((x4 + 1) : Int32).toInt = (x4 : Int32).toInt + (1 : Int32).toInt := i32_add (by omega) (by omega)
  refine ok_nmI (fun v1 hv1 he1 => ?_)
  exact hk26 σ x3 v1 hI (by omega) (by omega) (by omega) (by omega) (by omega)

theorem sX3_look_26 (τ : Nat) : ∀ (n : Nat) (σ : S2) (x3 : Int32) (x4 : Int32), IvC 0 τ σ → 0 ≤ x3.toInt → x3.toInt ≤ 63 → 0 ≤ x4.toInt → x4.toInt ≤ 12 → 12 - x4.toInt < (n : Int) → Ok (fun z => IvC 0 τ z.2) (fX3_look_26 τ n σ x3 x4) := by
  have hFU : ((FU : Nat) : Int) = 100000 := rfl
  intro n
  induction n with
  | zero => intro σ x3 x4 hI p9000 p9001 p9002 p9003 hm; exfalso; omega
  | succ n ih =>
    intro σ x3 x4 hI p9000 p9001 p9002 p9003 hm
    unfold fX3_look_26
    have : (12 : Int32).toInt = 12 := by decide
    refine ok_le (fun h1 => ?_) (fun h1 => ?_)
    · refine ok_bi (sJ6_bitCount_0f7a4 τ σ x3 hI) (fun r2 hr2 => ?_)
      obtain ⟨p3, p4⟩ := hr2
      have p3 : 0 ≤ r2.toInt := p3
      have p4 : r2.toInt ≤ 63 := p4
      refine ok_nm (fun σ4 hs5 => ?_)
      have hI6 : IvC 0 τ σ4 := by rw [hs5]; exact IvC.wF hI (by decide) (by omega) (show 0 ≤ (r2 : Int32).toInt by omega) (show (r2 : Int32).toInt ≤ 63 by omega)
      exact ok_some hI6
    · have := i32_rng (σ.1 182 0)
      have : (31 : Int32).toInt = 31 := by decide
      have := i32_andR (a := x4) (m := 31) (by omega)
      have := i32_andL (a := x4) (m := 31) (by omega)
      have := i32_rng ((σ.1 182 0) >>> (x4 &&& 31))
      have : (1 : Int32).toInt = 1 := by decide
      have := i32_andR (a := ((σ.1 182 0) >>> (x4 &&& 31))) (m := 1) (by omega)
      have : (0 : Int32).toInt = 0 := by decide
      refine ok_eq (fun h7 => ?_) (fun h7 => ?_)
      · exact sX3_look_94 τ (fX3_look_26 τ n) σ x3 x4 hI (by omega) (by omega) (by omega) (by omega) (fun y0 y1 y2 q0 q1 q2 q3 q4 q5 => ih y0 y1 y2 q0 q1 q2 q3 q4 (by omega))
      · refine ok_ck (by omega) (by omega) ?_
        have : 0 ≤ (σ.1 9 (Int32.toNatClampNeg x4)).toInt ∧ (σ.1 9 (Int32.toNatClampNeg x4)).toInt ≤ 5 := hI.1 9 (Int32.toNatClampNeg x4)
        refine ok_nmI (fun v5 hv5 he8 => ?_)
        have := i32_andR (a := v5) (m := 31) (by omega)
        have := i32_andL (a := v5) (m := 31) (by omega)
        have : 1 ≤ ((1 <<< (v5 &&& 31)) : Int32).toInt ∧ ((1 <<< (v5 &&& 31)) : Int32).toInt ≤ 32 := i32_shlB 5 (by omega) (by omega) (by decide)
        have := i32_orB (a := x3) (b := (1 <<< (v5 &&& 31))) 6 63 (by decide) (by decide) (by omega) (by omega) (by omega) (by omega)
        refine ok_nmI (fun v6 hv6 he9 => ?_)
        refine ok_ck (by omega) (by omega) ?_
        have : 0 ≤ (σ.1 183 (Int32.toNatClampNeg x4)).toInt ∧ (σ.1 183 (Int32.toNatClampNeg x4)).toInt ≤ 16 := hI.1.t 0 1 (Int32.toNatClampNeg x4) (by decide)
        refine ok_nmI (fun v7 hv7 he10 => ?_)
        have := i32_rng (σ.1 13 6)
        have := i32_rng ((σ.1 13 6) + v7)
        refine ok_nm (fun σ8 hs11 => ?_)
        have hI12 : IvC 0 τ σ8 := by rw [hs11]; exact IvC.wF hI (by decide) (by omega) (i32_rng _).1 (i32_rng _).2
        refine ok_ck (by omega) (by omega) ?_
        have : 0 ≤ (σ8.1 183 (Int32.toNatClampNeg x4)).toInt ∧ (σ8.1 183 (Int32.toNatClampNeg x4)).toInt ≤ 16 := hI12.1.t 0 1 (Int32.toNatClampNeg x4) (by decide)
        refine ok_nmI (fun v9 hv9 he13 => ?_)
        have := i32_rng (σ8.1 13 7)
        have := i32_iflt (σ8.1 13 7) v9 v9 (σ8.1 13 7)
        refine ok_nm (fun σ10 hs14 => ?_)
        have hI15 : IvC 0 τ σ10 := by rw [hs14]; exact IvC.wF hI12 (by decide) (by omega) (i32_rng _).1 (i32_rng _).2
        have : (σ10.1 13 6).toInt = (σ8.1 13 6).toInt := by rw [hs14]; rfl
        exact sX3_look_94 τ (fX3_look_26 τ n) σ10 v6 x4 hI15 (by omega) (by omega) (by omega) (by omega) (fun y0 y1 y2 q0 q1 q2 q3 q4 q5 => ih y0 y1 y2 q0 q1 q2 q3 q4 (by omega))

theorem sX3_look_0 (τ : Nat) (σ : S2) (hI : IvC 0 τ σ)   : Ok (fun z => IvC 0 τ z.2) (fX3_look_0 τ σ) := by
  have hFU : ((FU : Nat) : Int) = 100000 := rfl
  unfold fX3_look_0
  have := i32_rng (σ.1 182 0)
  refine ok_bi (sJ6_bitCount_0f7a4 τ σ (σ.1 182 0) hI) (fun r11 hr1 => ?_)
  obtain ⟨p2, p3⟩ := hr1
  have p2 : 0 ≤ r11.toInt := p2
  have p3 : r11.toInt ≤ 63 := p3
  refine ok_nm (fun σ13 hs4 => ?_)
  have hI5 : IvC 0 τ σ13 := by rw [hs4]; exact IvC.wF hI (by decide) (by omega) (show 0 ≤ (r11 : Int32).toInt by omega) (show (r11 : Int32).toInt ≤ 63 by omega)
  have : (0 : Int32).toInt = 0 := by decide
  refine ok_nm (fun σ14 hs6 => ?_)
  have hI7 : IvC 0 τ σ14 := by rw [hs6]; exact IvC.wF hI5 (by decide) (by omega) (i32_rng _).1 (i32_rng _).2
  have : (σ14.1 13 4).toInt = (σ13.1 13 4).toInt := by rw [hs6]; rfl
  refine ok_nm (fun σ15 hs8 => ?_)
  have hI9 : IvC 0 τ σ15 := by rw [hs8]; exact IvC.wF hI7 (by decide) (by omega) (i32_rng _).1 (i32_rng _).2
  have : (σ15.1 13 4).toInt = (σ14.1 13 4).toInt := by rw [hs8]; rfl
  have : (σ15.1 13 6).toInt = (σ14.1 13 6).toInt := by rw [hs8]; rfl
  exact sX3_look_26 τ FU σ15 0 0 hI9 (by omega) (by omega) (by omega) (by omega) (by omega)

theorem sX3_look (τ : Nat) (σ : S2) (hI : IvC 0 τ σ)   : Ok (fun z => IvC 0 τ z.2) (fX3_look τ σ) := by
  unfold fX3_look
  exact sX3_look_0 τ σ hI

theorem sign_ok {τ : Nat} {σ : S2} : Ok (fun z => (-1) ≤ z.toInt ∧ z.toInt ≤ 255) (fX3_sign τ σ) := by
  have z0 : (0 : Int32).toInt = 0 := rfl
  have m1 : ((-1 : Int32)).toInt = -1 := by decide
  have e255 : (255 : Int32).toInt = 255 := rfl
  have hN : (if σ.1 13 0 = 0 then (0 : Nat) else 80) ≤ 80 := by split <;> omega
  unfold fX3_sign fX3_sign_0
  generalize (if σ.1 13 0 = 0 then (0 : Nat) else 80) = N at hN ⊢
  have eN := i32_ofNat (n := N) (by omega)
  have bad : Ok (fun z : Int32 => (-1) ≤ z.toInt ∧ z.toInt ≤ 255) (some (-1)) := ok_some ⟨by show (-1 : Int) ≤ (-1 : Int32).toInt; omega, by show (-1 : Int32).toInt ≤ 255; omega⟩
  refine ok_lt (fun _ => bad) (fun h1 => ?_)
  refine ok_le (fun _ => bad) (fun h2 => ?_)
  refine ok_le (fun _ => bad) (fun h3 => ?_)
  refine ok_ck (by omega) (by omega) (ok_nm (fun v1 _ => ?_))
  have := i32_andR (a := v1) (m := 255) (by omega)
  exact ok_some ⟨by show (-1 : Int) ≤ (v1 &&& 255).toInt; omega, by show (v1 &&& 255).toInt ≤ 255; omega⟩
theorem sX3_sign (τ : Nat) (σ : S2) (hI : IvC 0 τ σ)   : Ok (fun z => (-1) ≤ z.toInt ∧ z.toInt ≤ 255) (fX3_sign τ σ) := by
  exact sign_ok

theorem sX3_isDigit_0 (τ : Nat) (σ : S2) (x0 : Int32) (hI : IvC 0 τ σ) (p9000 : (-1) ≤ x0.toInt) (p9001 : x0.toInt ≤ 255)  : Ok (fun z => 0 ≤ z.toInt ∧ z.toInt ≤ 1) (fX3_isDigit_0 τ σ x0) := by
  have hFU : ((FU : Nat) : Int) = 100000 := rfl
  unfold fX3_isDigit_0
  have : (48 : Int32).toInt = 48 := by decide
  refine ok_lt (fun h1 => ?_) (fun h1 => ?_)
  · have : (0 : Int32).toInt = 0 := by decide
    exact ok_some ⟨by show 0 ≤ (0 : Int32).toInt; omega, by show (0 : Int32).toInt ≤ 1; omega⟩
  · have : (57 : Int32).toInt = 57 := by decide
    refine ok_lt (fun h2 => ?_) (fun h2 => ?_)
    · have : (0 : Int32).toInt = 0 := by decide
      exact ok_some ⟨by show 0 ≤ (0 : Int32).toInt; omega, by show (0 : Int32).toInt ≤ 1; omega⟩
    · have : (1 : Int32).toInt = 1 := by decide
      exact ok_some ⟨by show 0 ≤ (1 : Int32).toInt; omega, by show (1 : Int32).toInt ≤ 1; omega⟩

theorem sX3_isDigit (τ : Nat) (σ : S2) (a0 : Int32) (hI : IvC 0 τ σ) (p9000 : (-1) ≤ a0.toInt) (p9001 : a0.toInt ≤ 255)  : Ok (fun z => 0 ≤ z.toInt ∧ z.toInt ≤ 1) (fX3_isDigit τ σ a0) := by
  unfold fX3_isDigit
  exact sX3_isDigit_0 τ σ a0 hI (by assumption) (by assumption)

theorem sX3_readNumber_4 (τ : Nat) : ∀ (n : Nat) (σ : S2) (x1 : Int32) (x2 : Int32), IvC 0 τ σ → 0 ≤ x2.toInt → x2.toInt ≤ 3 → 3 - x2.toInt < (n : Int) → Ok (fun z => IvC 0 τ z.2) (fX3_readNumber_4 τ n σ x1 x2) := by
  have hFU : ((FU : Nat) : Int) = 100000 := rfl
  intro n
  induction n with
  | zero => intro σ x1 x2 hI p9000 p9001 hm; exfalso; omega
  | succ n ih =>
    intro σ x1 x2 hI p9000 p9001 hm
    unfold fX3_readNumber_4
    have : (3 : Int32).toInt = 3 := by decide
    refine ok_le (fun h1 => ?_) (fun h1 => ?_)
    · have := i32_rng x1
      exact ok_some hI
    · refine ok_bi (sX3_sign τ σ hI) (fun r1 hr2 => ?_)
      obtain ⟨p3, p4⟩ := hr2
      have p3 : (-1) ≤ r1.toInt := p3
      have p4 : r1.toInt ≤ 255 := p4
      refine ok_bi (sX3_isDigit τ σ r1 hI (by omega) (by omega)) (fun r3 hr5 => ?_)
      obtain ⟨p6, p7⟩ := hr5
      have p6 : 0 ≤ r3.toInt := p6
      have p7 : r3.toInt ≤ 1 := p7
      have : (0 : Int32).toInt = 0 := by decide
      refine ok_eq (fun h8 => ?_) (fun h8 => ?_)
      · have := i32_rng x1
        exact ok_some hI
      · refine ok_bi (sX3_sign τ σ hI) (fun r5 hr9 => ?_)
        obtain ⟨p10, p11⟩ := hr9
        have p10 : (-1) ≤ r5.toInt := p10
        have p11 : r5.toInt ≤ 255 := p11
        have : (10 : Int32).toInt = 10 := by decide
        have := i32_rng x1
        have := i32_rng (10 * x1)
        have := i32_rng ((10 * x1) + r5)
        have : (48 : Int32).toInt = 48 := by decide
        have := i32_rng (((10 * x1) + r5) - 48)
        refine ok_nmI (fun v7 hv7 he12 => ?_)
        have := i32_rng (σ.1 13 2)
        have : (1 : Int32).toInt = 1 := by decide
        have := i32_rng ((σ.1 13 2) + 1)
        refine ok_nm (fun σ8 hs13 => ?_)
        have hI14 : IvC 0 τ σ8 := by rw [hs13]; exact IvC.wF hI (by decide) (by omega) (i32_rng _).1 (i32_rng _).2
        have : ((x2 + 1) : Int32).toInt = (x2 : Int32).toInt + (1 : Int32).toInt := i32_add (by omega) (by omega)
        refine ok_nmI (fun v9 hv9 he15 => ?_)
        have := i32_rng v7
        exact ih σ8 v7 v9 hI14 (by omega) (by omega) (by omega)

theorem sX3_readNumber_0 (τ : Nat) (σ : S2) (hI : IvC 0 τ σ)   : Ok (fun z => IvC 0 τ z.2) (fX3_readNumber_0 τ σ) := by
  have hFU : ((FU : Nat) : Int) = 100000 := rfl
  unfold fX3_readNumber_0
  have : (0 : Int32).toInt = 0 := by decide
  exact sX3_readNumber_4 τ FU σ 0 0 hI (by omega) (by omega) (by omega)

theorem sX3_readNumber (τ : Nat) (σ : S2) (hI : IvC 0 τ σ)   : Ok (fun z => IvC 0 τ z.2) (fX3_readNumber τ σ) := by
  unfold fX3_readNumber
  exact sX3_readNumber_0 τ σ hI

theorem sX3_readSum_80 (r : Int) (τ : Nat) (qX3_readSum : S2 → Int32 → Option (Int32 × S2)) (qX3_readProduct : S2 → Int32 → Option (Int32 × S2)) (qX3_readOperand : S2 → Int32 → Option (Int32 × S2)) (qX3_readBracket : S2 → Int32 → Option (Int32 × S2)) (k8 : S2 → Int32 → Int32 → Int32 → Option (Int32 × S2)) (hqX3_readSum : ∀ (σ : S2) (a1 : Int32), IvC 0 τ σ → 0 ≤ a1.toInt → a1.toInt ≤ 4 → 0 ≤ (r - 1) → 19 - 4 * a1.toInt ≤ (r - 1) → Ok (fun z => IvC 0 τ z.2) (qX3_readSum σ a1)) (hqX3_readProduct : ∀ (σ : S2) (a1 : Int32), IvC 0 τ σ → 0 ≤ a1.toInt → a1.toInt ≤ 4 → 0 ≤ (r - 1) → 18 - 4 * a1.toInt ≤ (r - 1) → Ok (fun z => IvC 0 τ z.2) (qX3_readProduct σ a1)) (hqX3_readOperand : ∀ (σ : S2) (a1 : Int32), IvC 0 τ σ → 0 ≤ a1.toInt → a1.toInt ≤ 4 → 0 ≤ (r - 1) → 17 - 4 * a1.toInt ≤ (r - 1) → Ok (fun z => IvC 0 τ z.2) (qX3_readOperand σ a1)) (hqX3_readBracket : ∀ (σ : S2) (a1 : Int32), IvC 0 τ σ → 0 ≤ a1.toInt → a1.toInt ≤ 3 → 0 ≤ (r - 1) → 16 - 4 * a1.toInt ≤ (r - 1) → Ok (fun z => IvC 0 τ z.2) (qX3_readBracket σ a1)) (σ : S2) (x1 : Int32) (x3 : Int32) (s0 : Int32) (hI : IvC 0 τ σ) (p9000 : 0 ≤ x1.toInt) (p9001 : x1.toInt ≤ 4) (p9002 : 0 ≤ x3.toInt) (p9003 : x3.toInt ≤ 79) (p9004 : 0 ≤ r) (p9005 : 19 - 4 * x1.toInt ≤ r) (hk8 : ∀ (y0 : S2) (y1 : Int32) (y2 : Int32) (y3 : Int32), IvC 0 τ y0 → 0 ≤ y1.toInt → y1.toInt ≤ 4 → 0 ≤ y3.toInt → y3.toInt ≤ 80 → 0 ≤ r → 19 - 4 * y1.toInt ≤ r → x3.toInt + 1 ≤ y3.toInt → Ok (fun z => IvC 0 τ z.2) (k8 y0 y1 y2 y3)) : Ok (fun z => IvC 0 τ z.2) (fX3_readSum_80 τ qX3_readSum qX3_readProduct qX3_readOperand qX3_readBracket k8 σ x1 x3 s0) := by
  have hFU : ((FU : Nat) : Int) = 100000 := rfl
  unfold fX3_readSum_80
  have : (1 : Int32).toInt = 1 := by decide
  have : ((x3 + 1) : Int32).toInt = (x3 : Int32).toInt + (1 : Int32).toInt := i32_add (by omega) (by omega)
  refine ok_nmI (fun v1 hv1 he1 => ?_)
  have := i32_rng s0
  exact hk8 σ x1 s0 v1 hI (by omega) (by omega) (by omega) (by omega) (by omega) (by omega) (by omega)

theorem sX3_readSum_45 (r : Int) (τ : Nat) (qX3_readSum : S2 → Int32 → Option (Int32 × S2)) (qX3_readProduct : S2 → Int32 → Option (Int32 × S2)) (qX3_readOperand : S2 → Int32 → Option (Int32 × S2)) (qX3_readBracket : S2 → Int32 → Option (Int32 × S2)) (k8 : S2 → Int32 → Int32 → Int32 → Option (Int32 × S2)) (hqX3_readSum : ∀ (σ : S2) (a1 : Int32), IvC 0 τ σ → 0 ≤ a1.toInt → a1.toInt ≤ 4 → 0 ≤ (r - 1) → 19 - 4 * a1.toInt ≤ (r - 1) → Ok (fun z => IvC 0 τ z.2) (qX3_readSum σ a1)) (hqX3_readProduct : ∀ (σ : S2) (a1 : Int32), IvC 0 τ σ → 0 ≤ a1.toInt → a1.toInt ≤ 4 → 0 ≤ (r - 1) → 18 - 4 * a1.toInt ≤ (r - 1) → Ok (fun z => IvC 0 τ z.2) (qX3_readProduct σ a1)) (hqX3_readOperand : ∀ (σ : S2) (a1 : Int32), IvC 0 τ σ → 0 ≤ a1.toInt → a1.toInt ≤ 4 → 0 ≤ (r - 1) → 17 - 4 * a1.toInt ≤ (r - 1) → Ok (fun z => IvC 0 τ z.2) (qX3_readOperand σ a1)) (hqX3_readBracket : ∀ (σ : S2) (a1 : Int32), IvC 0 τ σ → 0 ≤ a1.toInt → a1.toInt ≤ 3 → 0 ≤ (r - 1) → 16 - 4 * a1.toInt ≤ (r - 1) → Ok (fun z => IvC 0 τ z.2) (qX3_readBracket σ a1)) (σ : S2) (x1 : Int32) (x2 : Int32) (x3 : Int32) (x4 : Int32) (hI : IvC 0 τ σ) (p9000 : 0 ≤ x1.toInt) (p9001 : x1.toInt ≤ 4) (p9002 : 0 ≤ x3.toInt) (p9003 : x3.toInt ≤ 79) (p9004 : 43 ≤ x4.toInt) (p9005 : x4.toInt ≤ 45) (p9006 : 0 ≤ r) (p9007 : 19 - 4 * x1.toInt ≤ r) (hk8 : ∀ (y0 : S2) (y1 : Int32) (y2 : Int32) (y3 : Int32), IvC 0 τ y0 → 0 ≤ y1.toInt → y1.toInt ≤ 4 → 0 ≤ y3.toInt → y3.toInt ≤ 80 → 0 ≤ r → 19 - 4 * y1.toInt ≤ r → x3.toInt + 1 ≤ y3.toInt → Ok (fun z => IvC 0 τ z.2) (k8 y0 y1 y2 y3)) : Ok (fun z => IvC 0 τ z.2) (fX3_readSum_45 τ qX3_readSum qX3_readProduct qX3_readOperand qX3_readBracket k8 σ x1 x2 x3 x4) := by
  have hFU : ((FU : Nat) : Int) = 100000 := rfl
  unfold fX3_readSum_45
  have := i32_rng (σ.1 13 2)
  have : (1 : Int32).toInt = 1 := by decide
  have := i32_rng ((σ.1 13 2) + 1)
  refine ok_nm (fun σ2 hs1 => ?_)
  have hI2 : IvC 0 τ σ2 := by rw [hs1]; exact IvC.wF hI (by decide) (by omega) (i32_rng _).1 (i32_rng _).2
  refine ok_bs (hqX3_readProduct σ2 x1 hI2 (by omega) (by omega) (by omega) (by omega)) (fun r3 σ4 hr3 => ?_)
  have hr3 : IvC 0 τ σ4 := hr3
  have : (43 : Int32).toInt = 43 := by decide
  refine ok_eq (fun h5 => ?_) (fun h5 => ?_)
  · have := i32_rng x2
    have := i32_rng r3
    have := i32_rng (x2 + r3)
    exact sX3_readSum_80 r τ qX3_readSum qX3_readProduct qX3_readOperand qX3_readBracket k8 hqX3_readSum hqX3_readProduct hqX3_readOperand hqX3_readBracket σ4 x1 x3 (x2 + r3) hr3 (by omega) (by omega) (by omega) (by omega) (by omega) (by omega) (fun y0 y1 y2 y3 q0 q1 q2 q3 q4 q5 q6 q7 => hk8 y0 y1 y2 y3 q0 q1 q2 q3 q4 q5 q6 (by omega))
  · have := i32_rng x2
    have := i32_rng r3
    have := i32_rng (x2 - r3)
    exact sX3_readSum_80 r τ qX3_readSum qX3_readProduct qX3_readOperand qX3_readBracket k8 hqX3_readSum hqX3_readProduct hqX3_readOperand hqX3_readBracket σ4 x1 x3 (x2 - r3) hr3 (by omega) (by omega) (by omega) (by omega) (by omega) (by omega) (fun y0 y1 y2 y3 q0 q1 q2 q3 q4 q5 q6 q7 => hk8 y0 y1 y2 y3 q0 q1 q2 q3 q4 q5 q6 (by omega))

theorem sX3_readSum_8 (r : Int) (τ : Nat) (qX3_readSum : S2 → Int32 → Option (Int32 × S2)) (qX3_readProduct : S2 → Int32 → Option (Int32 × S2)) (qX3_readOperand : S2 → Int32 → Option (Int32 × S2)) (qX3_readBracket : S2 → Int32 → Option (Int32 × S2)) (hqX3_readSum : ∀ (σ : S2) (a1 : Int32), IvC 0 τ σ → 0 ≤ a1.toInt → a1.toInt ≤ 4 → 0 ≤ (r - 1) → 19 - 4 * a1.toInt ≤ (r - 1) → Ok (fun z => IvC 0 τ z.2) (qX3_readSum σ a1)) (hqX3_readProduct : ∀ (σ : S2) (a1 : Int32), IvC 0 τ σ → 0 ≤ a1.toInt → a1.toInt ≤ 4 → 0 ≤ (r - 1) → 18 - 4 * a1.toInt ≤ (r - 1) → Ok (fun z => IvC 0 τ z.2) (qX3_readProduct σ a1)) (hqX3_readOperand : ∀ (σ : S2) (a1 : Int32), IvC 0 τ σ → 0 ≤ a1.toInt → a1.toInt ≤ 4 → 0 ≤ (r - 1) → 17 - 4 * a1.toInt ≤ (r - 1) → Ok (fun z => IvC 0 τ z.2) (qX3_readOperand σ a1)) (hqX3_readBracket : ∀ (σ : S2) (a1 : Int32), IvC 0 τ σ → 0 ≤ a1.toInt → a1.toInt ≤ 3 → 0 ≤ (r - 1) → 16 - 4 * a1.toInt ≤ (r - 1) → Ok (fun z => IvC 0 τ z.2) (qX3_readBracket σ a1)) : ∀ (n : Nat) (σ : S2) (x1 : Int32) (x2 : Int32) (x3 : Int32), IvC 0 τ σ → 0 ≤ x1.toInt → x1.toInt ≤ 4 → 0 ≤ x3.toInt → x3.toInt ≤ 80 → 0 ≤ r → 19 - 4 * x1.toInt ≤ r → 80 - x3.toInt < (n : Int) → Ok (fun z => IvC 0 τ z.2) (fX3_readSum_8 τ qX3_readSum qX3_readProduct qX3_readOperand qX3_readBracket n σ x1 x2 x3) := by
  have hFU : ((FU : Nat) : Int) = 100000 := rfl
  intro n
  induction n with
  | zero => intro σ x1 x2 x3 hI p9000 p9001 p9002 p9003 p9004 p9005 hm; exfalso; omega
  | succ n ih =>
    intro σ x1 x2 x3 hI p9000 p9001 p9002 p9003 p9004 p9005 hm
    unfold fX3_readSum_8
    have : (80 : Int32).toInt = 80 := by decide
    refine ok_le (fun h1 => ?_) (fun h1 => ?_)
    · have := i32_rng x2
      exact ok_some hI
    · have := i32_rng (σ.1 13 3)
      have : ((-1) : Int32).toInt = (-1) := by decide
      refine ok_eq (fun h2 => ?_) (fun h2 => ?_)
      · refine ok_bi (sX3_sign τ σ hI) (fun r6 hr3 => ?_)
        obtain ⟨p4, p5⟩ := hr3
        have p4 : (-1) ≤ r6.toInt := p4
        have p5 : r6.toInt ≤ 255 := p5
        have : (43 : Int32).toInt = 43 := by decide
        refine ok_eq (fun h6 => ?_) (fun h6 => ?_)
        · have := i32_rng x2
          exact sX3_readSum_45 r τ qX3_readSum qX3_readProduct qX3_readOperand qX3_readBracket (fX3_readSum_8 τ qX3_readSum qX3_readProduct qX3_readOperand qX3_readBracket n) hqX3_readSum hqX3_readProduct hqX3_readOperand hqX3_readBracket σ x1 x2 x3 r6 hI (by omega) (by omega) (by omega) (by omega) (by omega) (by omega) (by omega) (by omega) (fun y0 y1 y2 y3 q0 q1 q2 q3 q4 q5 q6 q7 => ih y0 y1 y2 y3 q0 q1 q2 q3 q4 q5 q6 (by omega))
        · have : (45 : Int32).toInt = 45 := by decide
          refine ok_eq (fun h7 => ?_) (fun h7 => ?_)
          · have := i32_rng x2
            exact sX3_readSum_45 r τ qX3_readSum qX3_readProduct qX3_readOperand qX3_readBracket (fX3_readSum_8 τ qX3_readSum qX3_readProduct qX3_readOperand qX3_readBracket n) hqX3_readSum hqX3_readProduct hqX3_readOperand hqX3_readBracket σ x1 x2 x3 r6 hI (by omega) (by omega) (by omega) (by omega) (by omega) (by omega) (by omega) (by omega) (fun y0 y1 y2 y3 q0 q1 q2 q3 q4 q5 q6 q7 => ih y0 y1 y2 y3 q0 q1 q2 q3 q4 q5 q6 (by omega))
          · have := i32_rng x2
            exact ok_some hI
      · have := i32_rng x2
        exact ok_some hI

theorem sX3_readSum_0 (r : Int) (τ : Nat) (qX3_readSum : S2 → Int32 → Option (Int32 × S2)) (qX3_readProduct : S2 → Int32 → Option (Int32 × S2)) (qX3_readOperand : S2 → Int32 → Option (Int32 × S2)) (qX3_readBracket : S2 → Int32 → Option (Int32 × S2)) (hqX3_readSum : ∀ (σ : S2) (a1 : Int32), IvC 0 τ σ → 0 ≤ a1.toInt → a1.toInt ≤ 4 → 0 ≤ (r - 1) → 19 - 4 * a1.toInt ≤ (r - 1) → Ok (fun z => IvC 0 τ z.2) (qX3_readSum σ a1)) (hqX3_readProduct : ∀ (σ : S2) (a1 : Int32), IvC 0 τ σ → 0 ≤ a1.toInt → a1.toInt ≤ 4 → 0 ≤ (r - 1) → 18 - 4 * a1.toInt ≤ (r - 1) → Ok (fun z => IvC 0 τ z.2) (qX3_readProduct σ a1)) (hqX3_readOperand : ∀ (σ : S2) (a1 : Int32), IvC 0 τ σ → 0 ≤ a1.toInt → a1.toInt ≤ 4 → 0 ≤ (r - 1) → 17 - 4 * a1.toInt ≤ (r - 1) → Ok (fun z => IvC 0 τ z.2) (qX3_readOperand σ a1)) (hqX3_readBracket : ∀ (σ : S2) (a1 : Int32), IvC 0 τ σ → 0 ≤ a1.toInt → a1.toInt ≤ 3 → 0 ≤ (r - 1) → 16 - 4 * a1.toInt ≤ (r - 1) → Ok (fun z => IvC 0 τ z.2) (qX3_readBracket σ a1)) (σ : S2) (x1 : Int32) (hI : IvC 0 τ σ) (p9000 : 0 ≤ x1.toInt) (p9001 : x1.toInt ≤ 4) (p9002 : 0 ≤ r) (p9003 : 19 - 4 * x1.toInt ≤ r)  : Ok (fun z => IvC 0 τ z.2) (fX3_readSum_0 τ qX3_readSum qX3_readProduct qX3_readOperand qX3_readBracket σ x1) := by
  have hFU : ((FU : Nat) : Int) = 100000 := rfl
  unfold fX3_readSum_0
  refine ok_bs (hqX3_readProduct σ x1 hI (by omega) (by omega) (by omega) (by omega)) (fun r8 σ9 hr1 => ?_)
  have hr1 : IvC 0 τ σ9 := hr1
  have := i32_rng r8
  have : (0 : Int32).toInt = 0 := by decide
  exact sX3_readSum_8 r τ qX3_readSum qX3_readProduct qX3_readOperand qX3_readBracket hqX3_readSum hqX3_readProduct hqX3_readOperand hqX3_readBracket FU σ9 x1 r8 0 hr1 (by omega) (by omega) (by omega) (by omega) (by omega) (by omega) (by omega)

theorem sX3_readProduct_113 (r : Int) (τ : Nat) (qX3_readSum : S2 → Int32 → Option (Int32 × S2)) (qX3_readProduct : S2 → Int32 → Option (Int32 × S2)) (qX3_readOperand : S2 → Int32 → Option (Int32 × S2)) (qX3_readBracket : S2 → Int32 → Option (Int32 × S2)) (k8 : S2 → Int32 → Int32 → Int32 → Option (Int32 × S2)) (hqX3_readSum : ∀ (σ : S2) (a1 : Int32), IvC 0 τ σ → 0 ≤ a1.toInt → a1.toInt ≤ 4 → 0 ≤ (r - 1) → 19 - 4 * a1.toInt ≤ (r - 1) → Ok (fun z => IvC 0 τ z.2) (qX3_readSum σ a1)) (hqX3_readProduct : ∀ (σ : S2) (a1 : Int32), IvC 0 τ σ → 0 ≤ a1.toInt → a1.toInt ≤ 4 → 0 ≤ (r - 1) → 18 - 4 * a1.toInt ≤ (r - 1) → Ok (fun z => IvC 0 τ z.2) (qX3_readProduct σ a1)) (hqX3_readOperand : ∀ (σ : S2) (a1 : Int32), IvC 0 τ σ → 0 ≤ a1.toInt → a1.toInt ≤ 4 → 0 ≤ (r - 1) → 17 - 4 * a1.toInt ≤ (r - 1) → Ok (fun z => IvC 0 τ z.2) (qX3_readOperand σ a1)) (hqX3_readBracket : ∀ (σ : S2) (a1 : Int32), IvC 0 τ σ → 0 ≤ a1.toInt → a1.toInt ≤ 3 → 0 ≤ (r - 1) → 16 - 4 * a1.toInt ≤ (r - 1) → Ok (fun z => IvC 0 τ z.2) (qX3_readBracket σ a1)) (σ : S2) (x1 : Int32) (x2 : Int32) (x3 : Int32) (hI : IvC 0 τ σ) (p9000 : 0 ≤ x1.toInt) (p9001 : x1.toInt ≤ 4) (p9002 : 0 ≤ x3.toInt) (p9003 : x3.toInt ≤ 79) (p9004 : 0 ≤ r) (p9005 : 18 - 4 * x1.toInt ≤ r) (hk8 : ∀ (y0 : S2) (y1 : Int32) (y2 : Int32) (y3 : Int32), IvC 0 τ y0 → 0 ≤ y1.toInt → y1.toInt ≤ 4 → 0 ≤ y3.toInt → y3.toInt ≤ 80 → 0 ≤ r → 18 - 4 * y1.toInt ≤ r → x3.toInt + 1 ≤ y3.toInt → Ok (fun z => IvC 0 τ z.2) (k8 y0 y1 y2 y3)) : Ok (fun z => IvC 0 τ z.2) (fX3_readProduct_113 τ qX3_readSum qX3_readProduct qX3_readOperand qX3_readBracket k8 σ x1 x2 x3) := by
  have hFU : ((FU : Nat) : Int) = 100000 := rfl
  unfold fX3_readProduct_113
  have : (1 : Int32).toInt = 1 := by decide
  have : ((x3 + 1) : Int32).toInt = (x3 : Int32).toInt + (1 : Int32).toInt := i32_add (by omega) (by omega)
  refine ok_nmI (fun v1 hv1 he1 => ?_)
  have := i32_rng x2
  exact hk8 σ x1 x2 v1 hI (by omega) (by omega) (by omega) (by omega) (by omega) (by omega) (by omega)

theorem sX3_readProduct_112 (r : Int) (τ : Nat) (qX3_readSum : S2 → Int32 → Option (Int32 × S2)) (qX3_readProduct : S2 → Int32 → Option (Int32 × S2)) (qX3_readOperand : S2 → Int32 → Option (Int32 × S2)) (qX3_readBracket : S2 → Int32 → Option (Int32 × S2)) (k8 : S2 → Int32 → Int32 → Int32 → Option (Int32 × S2)) (hqX3_readSum : ∀ (σ : S2) (a1 : Int32), IvC 0 τ σ → 0 ≤ a1.toInt → a1.toInt ≤ 4 → 0 ≤ (r - 1) → 19 - 4 * a1.toInt ≤ (r - 1) → Ok (fun z => IvC 0 τ z.2) (qX3_readSum σ a1)) (hqX3_readProduct : ∀ (σ : S2) (a1 : Int32), IvC 0 τ σ → 0 ≤ a1.toInt → a1.toInt ≤ 4 → 0 ≤ (r - 1) → 18 - 4 * a1.toInt ≤ (r - 1) → Ok (fun z => IvC 0 τ z.2) (qX3_readProduct σ a1)) (hqX3_readOperand : ∀ (σ : S2) (a1 : Int32), IvC 0 τ σ → 0 ≤ a1.toInt → a1.toInt ≤ 4 → 0 ≤ (r - 1) → 17 - 4 * a1.toInt ≤ (r - 1) → Ok (fun z => IvC 0 τ z.2) (qX3_readOperand σ a1)) (hqX3_readBracket : ∀ (σ : S2) (a1 : Int32), IvC 0 τ σ → 0 ≤ a1.toInt → a1.toInt ≤ 3 → 0 ≤ (r - 1) → 16 - 4 * a1.toInt ≤ (r - 1) → Ok (fun z => IvC 0 τ z.2) (qX3_readBracket σ a1)) (σ : S2) (x1 : Int32) (x3 : Int32) (s0 : Int32) (hI : IvC 0 τ σ) (p9000 : 0 ≤ x1.toInt) (p9001 : x1.toInt ≤ 4) (p9002 : 0 ≤ x3.toInt) (p9003 : x3.toInt ≤ 79) (p9004 : 0 ≤ r) (p9005 : 18 - 4 * x1.toInt ≤ r) (hk8 : ∀ (y0 : S2) (y1 : Int32) (y2 : Int32) (y3 : Int32), IvC 0 τ y0 → 0 ≤ y1.toInt → y1.toInt ≤ 4 → 0 ≤ y3.toInt → y3.toInt ≤ 80 → 0 ≤ r → 18 - 4 * y1.toInt ≤ r → x3.toInt + 1 ≤ y3.toInt → Ok (fun z => IvC 0 τ z.2) (k8 y0 y1 y2 y3)) : Ok (fun z => IvC 0 τ z.2) (fX3_readProduct_112 τ qX3_readSum qX3_readProduct qX3_readOperand qX3_readBracket k8 σ x1 x3 s0) := by
  have hFU : ((FU : Nat) : Int) = 100000 := rfl
  unfold fX3_readProduct_112
  have := i32_rng s0
  exact sX3_readProduct_113 r τ qX3_readSum qX3_readProduct qX3_readOperand qX3_readBracket k8 hqX3_readSum hqX3_readProduct hqX3_readOperand hqX3_readBracket σ x1 s0 x3 hI (by omega) (by omega) (by omega) (by omega) (by omega) (by omega) (fun y0 y1 y2 y3 q0 q1 q2 q3 q4 q5 q6 q7 => hk8 y0 y1 y2 y3 q0 q1 q2 q3 q4 q5 q6 (by omega))

