theorem sX12_in_0 {g : Nat} (σ : S2) (x0 : Int32) (x1 : Int32) (x2 : Int32) (hI : IvM g σ) (p9000 : (-1) ≤ x1.toInt) (p9001 : x1.toInt ≤ 48) (p9002 : (-1) ≤ x2.toInt) (p9003 : x2.toInt ≤ 9999)  : Ok (fun z => 0 ≤ z.toInt ∧ z.toInt ≤ 1 ∧ (z.toInt ≠ 0 → x1.toInt ≤ x0.toInt ∧ x0.toInt ≤ x2.toInt)) (fX12_in_0 σ x0 x1 x2) := by
  have hFU : ((FU : Nat) : Int) = 100000 := rfl
  unfold fX12_in_0
  have := i32_rng x0
  refine ok_lt (fun h1 => ?_) (fun h1 => ?_)
  · have : (0 : Int32).toInt = 0 := by decide
    exact ok_some ⟨by show 0 ≤ (0 : Int32).toInt; omega, by show (0 : Int32).toInt ≤ 1; omega, by show (0 : Int32).toInt ≠ 0 → x1.toInt ≤ x0.toInt ∧ x0.toInt ≤ x2.toInt; omega⟩
  · refine ok_lt (fun h2 => ?_) (fun h2 => ?_)
    · have : (0 : Int32).toInt = 0 := by decide
      exact ok_some ⟨by show 0 ≤ (0 : Int32).toInt; omega, by show (0 : Int32).toInt ≤ 1; omega, by show (0 : Int32).toInt ≠ 0 → x1.toInt ≤ x0.toInt ∧ x0.toInt ≤ x2.toInt; omega⟩
    · have : (1 : Int32).toInt = 1 := by decide
      exact ok_some ⟨by show 0 ≤ (1 : Int32).toInt; omega, by show (1 : Int32).toInt ≤ 1; omega, by show (1 : Int32).toInt ≠ 0 → x1.toInt ≤ x0.toInt ∧ x0.toInt ≤ x2.toInt; omega⟩

theorem sX12_in {g : Nat} (σ : S2) (a0 : Int32) (a1 : Int32) (a2 : Int32) (hI : IvM g σ) (p9000 : (-1) ≤ a1.toInt) (p9001 : a1.toInt ≤ 48) (p9002 : (-1) ≤ a2.toInt) (p9003 : a2.toInt ≤ 9999)  : Ok (fun z => 0 ≤ z.toInt ∧ z.toInt ≤ 1 ∧ (z.toInt ≠ 0 → a1.toInt ≤ a0.toInt ∧ a0.toInt ≤ a2.toInt)) (fX12_in σ a0 a1 a2) := by
  unfold fX12_in
  exact sX12_in_0 σ a0 a1 a2 hI (by assumption) (by assumption) (by assumption) (by assumption)

theorem sX12_isName_0 {g : Nat} (σ : S2) (x1 : Int32) (hI : IvM g σ)   : Ok (fun z => 0 ≤ z.toInt ∧ z.toInt ≤ 1 ∧ (z.toInt ≠ 0 → 0 ≤ x1.toInt ∧ x1.toInt < (σ.1 0 0).toInt)) (fX12_isName_0 σ x1) := by
  have hFU : ((FU : Nat) : Int) = 100000 := rfl
  unfold fX12_isName_0
  have := i32_rng x1
  have : (0 : Int32).toInt = 0 := by decide
  have : 0 ≤ (σ.1 0 0).toInt ∧ (σ.1 0 0).toInt ≤ 40 := hI.1 0 0
  have : (1 : Int32).toInt = 1 := by decide
  have : (((σ.1 0 0) - 1) : Int32).toInt = ((σ.1 0 0) : Int32).toInt - (1 : Int32).toInt := i32_sub (by omega) (by omega)
  refine ok_bi (sX12_in σ x1 0 ((σ.1 0 0) - 1) hI (by omega) (by omega) (by omega) (by omega)) (fun r1 hr1 => ?_)
  obtain ⟨p2, p3, p4⟩ := hr1
  have p2 : 0 ≤ r1.toInt := p2
  have p3 : r1.toInt ≤ 1 := p3
  have p4 : r1.toInt ≠ 0 → (0 : Int32).toInt ≤ x1.toInt ∧ x1.toInt ≤ ((σ.1 0 0) - 1).toInt := p4
  refine ok_zb (by omega) (by omega) ?_
  exact ok_some ⟨by show 0 ≤ r1.toInt; omega, by show r1.toInt ≤ 1; omega, by show r1.toInt ≠ 0 → 0 ≤ x1.toInt ∧ x1.toInt < (σ.1 0 0).toInt; omega⟩

theorem sX12_isName {g : Nat} (σ : S2) (a1 : Int32) (hI : IvM g σ)   : Ok (fun z => 0 ≤ z.toInt ∧ z.toInt ≤ 1 ∧ (z.toInt ≠ 0 → 0 ≤ a1.toInt ∧ a1.toInt < (σ.1 0 0).toInt)) (fX12_isName σ a1) := by
  unfold fX12_isName
  exact sX12_isName_0 σ a1 hI

theorem sX12_isKeeper_0 {g : Nat} (σ : S2) (x1 : Int32) (hI : IvM g σ)   : Ok (fun z => 0 ≤ z.toInt ∧ z.toInt ≤ 1 ∧ (z.toInt ≠ 0 → 0 ≤ x1.toInt ∧ x1.toInt < (σ.1 0 3).toInt)) (fX12_isKeeper_0 σ x1) := by
  have hFU : ((FU : Nat) : Int) = 100000 := rfl
  unfold fX12_isKeeper_0
  have := i32_rng x1
  have : (0 : Int32).toInt = 0 := by decide
  have : 0 ≤ (σ.1 0 3).toInt ∧ (σ.1 0 3).toInt ≤ 12 := hI.1 0 3
  have : (1 : Int32).toInt = 1 := by decide
  have : (((σ.1 0 3) - 1) : Int32).toInt = ((σ.1 0 3) : Int32).toInt - (1 : Int32).toInt := i32_sub (by omega) (by omega)
  refine ok_bi (sX12_in σ x1 0 ((σ.1 0 3) - 1) hI (by omega) (by omega) (by omega) (by omega)) (fun r1 hr1 => ?_)
  obtain ⟨p2, p3, p4⟩ := hr1
  have p2 : 0 ≤ r1.toInt := p2
  have p3 : r1.toInt ≤ 1 := p3
  have p4 : r1.toInt ≠ 0 → (0 : Int32).toInt ≤ x1.toInt ∧ x1.toInt ≤ ((σ.1 0 3) - 1).toInt := p4
  refine ok_zb (by omega) (by omega) ?_
  exact ok_some ⟨by show 0 ≤ r1.toInt; omega, by show r1.toInt ≤ 1; omega, by show r1.toInt ≠ 0 → 0 ≤ x1.toInt ∧ x1.toInt < (σ.1 0 3).toInt; omega⟩

theorem sX12_isKeeper {g : Nat} (σ : S2) (a1 : Int32) (hI : IvM g σ)   : Ok (fun z => 0 ≤ z.toInt ∧ z.toInt ≤ 1 ∧ (z.toInt ≠ 0 → 0 ≤ a1.toInt ∧ a1.toInt < (σ.1 0 3).toInt)) (fX12_isKeeper σ a1) := by
  unfold fX12_isKeeper
  exact sX12_isKeeper_0 σ a1 hI

theorem sX12_isTable_0 {g : Nat} (σ : S2) (x1 : Int32) (hI : IvM g σ)   : Ok (fun z => 0 ≤ z.toInt ∧ z.toInt ≤ 1 ∧ (z.toInt ≠ 0 → 0 ≤ x1.toInt ∧ x1.toInt < (σ.1 0 9).toInt)) (fX12_isTable_0 σ x1) := by
  have hFU : ((FU : Nat) : Int) = 100000 := rfl
  unfold fX12_isTable_0
  have := i32_rng x1
  have : (0 : Int32).toInt = 0 := by decide
  have : 0 ≤ (σ.1 0 9).toInt ∧ (σ.1 0 9).toInt ≤ 10 := hI.1 0 9
  have : (1 : Int32).toInt = 1 := by decide
  have : (((σ.1 0 9) - 1) : Int32).toInt = ((σ.1 0 9) : Int32).toInt - (1 : Int32).toInt := i32_sub (by omega) (by omega)
  refine ok_bi (sX12_in σ x1 0 ((σ.1 0 9) - 1) hI (by omega) (by omega) (by omega) (by omega)) (fun r1 hr1 => ?_)
  obtain ⟨p2, p3, p4⟩ := hr1
  have p2 : 0 ≤ r1.toInt := p2
  have p3 : r1.toInt ≤ 1 := p3
  have p4 : r1.toInt ≠ 0 → (0 : Int32).toInt ≤ x1.toInt ∧ x1.toInt ≤ ((σ.1 0 9) - 1).toInt := p4
  refine ok_zb (by omega) (by omega) ?_
  exact ok_some ⟨by show 0 ≤ r1.toInt; omega, by show r1.toInt ≤ 1; omega, by show r1.toInt ≠ 0 → 0 ≤ x1.toInt ∧ x1.toInt < (σ.1 0 9).toInt; omega⟩

theorem sX12_isTable {g : Nat} (σ : S2) (a1 : Int32) (hI : IvM g σ)   : Ok (fun z => 0 ≤ z.toInt ∧ z.toInt ≤ 1 ∧ (z.toInt ≠ 0 → 0 ≤ a1.toInt ∧ a1.toInt < (σ.1 0 9).toInt)) (fX12_isTable σ a1) := by
  unfold fX12_isTable
  exact sX12_isTable_0 σ a1 hI

theorem sX12_feed_27 {g : Nat} : ∀ (n : Nat) (σ : S2) (x1 : Int32) (x2 : Int32) (x3 : Int32), IvM g σ → 1 ≤ x1.toInt → x1.toInt ≤ 4 → 0 ≤ x3.toInt → x3.toInt ≤ 4 → (σ.1 0 22).toInt + x1.toInt - x3.toInt ≤ 80 → 4 - x3.toInt < (n : Int) → Ok (fun z => IvM g z.2 ∧ (-3) ≤ z.1.toInt ∧ z.1.toInt ≤ 80) (fX12_feed_27 n σ x1 x2 x3) := by
  have hFU : ((FU : Nat) : Int) = 100000 := rfl
  intro n
  induction n with
  | zero => intro σ x1 x2 x3 hI p9000 p9001 p9002 p9003 p9004 hm; exfalso; omega
  | succ n ih =>
    intro σ x1 x2 x3 hI p9000 p9001 p9002 p9003 p9004 hm
    unfold fX12_feed_27
    refine ok_le (fun h1 => ?_) (fun h1 => ?_)
    · have : 0 ≤ (σ.1 0 22).toInt ∧ (σ.1 0 22).toInt ≤ 80 := hI.1 0 22
      exact ok_some ⟨hI, by show (-3) ≤ (σ.1 0 22).toInt; omega, by show (σ.1 0 22).toInt ≤ 80; omega⟩
    · have : 0 ≤ (σ.1 0 22).toInt ∧ (σ.1 0 22).toInt ≤ 80 := hI.1 0 22
      refine ok_ck (by omega) (by omega) ?_
      have := i32_rng x2
      have : (8 : Int32).toInt = 8 := by decide
      have : ((8 * x3) : Int32).toInt = 8 * (x3 : Int32).toInt := i32_mulL (by omega) (by omega) (by omega)
      have : (31 : Int32).toInt = 31 := by decide
      have := i32_andR (a := (8 * x3)) (m := 31) (by omega)
      have := i32_andL (a := (8 * x3)) (m := 31) (by omega)
      have := i32_rng (x2 >>> ((8 * x3) &&& 31))
      have : (255 : Int32).toInt = 255 := by decide
      have := i32_andR (a := (x2 >>> ((8 * x3) &&& 31))) (m := 255) (by omega)
      refine ok_nm (fun σ1 hs2 => ?_)
      have hI3 : IvM g σ1 := by rw [hs2]; exact IvM.wI hI rfl (show 0 ≤ (((x2 >>> ((8 * x3) &&& 31)) &&& 255) : Int32).toInt by omega) (show (((x2 >>> ((8 * x3) &&& 31)) &&& 255) : Int32).toInt ≤ 255 by omega)
      have : (σ1.1 0 22).toInt = (σ.1 0 22).toInt := by rw [hs2]; rfl
      have : 0 ≤ (σ1.1 0 22).toInt ∧ (σ1.1 0 22).toInt ≤ 80 := hI3.1 0 22
      have : (1 : Int32).toInt = 1 := by decide
      have : (((σ1.1 0 22) + 1) : Int32).toInt = ((σ1.1 0 22) : Int32).toInt + (1 : Int32).toInt := i32_add (by omega) (by omega)
      refine ok_nm (fun σ2 hs4 => ?_)
      have hI5 : IvM g σ2 := by rw [hs4]; exact IvM.wI hI3 rfl (show 0 ≤ (((σ1.1 0 22) + 1) : Int32).toInt by omega) (show (((σ1.1 0 22) + 1) : Int32).toInt ≤ 80 by omega)
      have : (σ2.1 0 22).toInt = (((σ1.1 0 22) + 1) : Int32).toInt := by rw [hs4]; rfl
      have : ((x3 + 1) : Int32).toInt = (x3 : Int32).toInt + (1 : Int32).toInt := i32_add (by omega) (by omega)
      refine ok_nmI (fun v3 hv3 he6 => ?_)
      exact ih σ2 x1 x2 v3 hI5 (by omega) (by omega) (by omega) (by omega) (by omega) (by omega)

theorem sX12_feed_0 {g : Nat} (σ : S2) (x1 : Int32) (x2 : Int32) (hI : IvM g σ)   : Ok (fun z => IvM g z.2 ∧ (-3) ≤ z.1.toInt ∧ z.1.toInt ≤ 80) (fX12_feed_0 σ x1 x2) := by
  have hFU : ((FU : Nat) : Int) = 100000 := rfl
  unfold fX12_feed_0
  have := i32_rng x1
  have : (1 : Int32).toInt = 1 := by decide
  have : (4 : Int32).toInt = 4 := by decide
  refine ok_bi (sX12_in σ x1 1 4 hI (by omega) (by omega) (by omega) (by omega)) (fun r4 hr1 => ?_)
  obtain ⟨p2, p3, p4⟩ := hr1
  have p2 : 0 ≤ r4.toInt := p2
  have p3 : r4.toInt ≤ 1 := p3
  have p4 : r4.toInt ≠ 0 → (1 : Int32).toInt ≤ x1.toInt ∧ x1.toInt ≤ (4 : Int32).toInt := p4
  have : (0 : Int32).toInt = 0 := by decide
  refine ok_eq (fun h5 => ?_) (fun h5 => ?_)
  · have : ((-1) : Int32).toInt = (-1) := by decide
    exact ok_some ⟨hI, by show (-3) ≤ ((-1) : Int32).toInt; omega, by show ((-1) : Int32).toInt ≤ 80; omega⟩
  · have : 0 ≤ (σ.1 0 22).toInt ∧ (σ.1 0 22).toInt ≤ 80 := hI.1 0 22
    have : (((σ.1 0 22) + x1) : Int32).toInt = ((σ.1 0 22) : Int32).toInt + (x1 : Int32).toInt := i32_add (by omega) (by omega)
    have : (80 : Int32).toInt = 80 := by decide
    refine ok_le (fun h6 => ?_) (fun h6 => ?_)
    · have := i32_rng x2
      exact sX12_feed_27 FU σ x1 x2 0 hI (by omega) (by omega) (by omega) (by omega) (by omega) (by omega)
    · have : ((-3) : Int32).toInt = (-3) := by decide
      exact ok_some ⟨hI, by show (-3) ≤ ((-3) : Int32).toInt; omega, by show ((-3) : Int32).toInt ≤ 80; omega⟩

theorem sX12_feed {g : Nat} (σ : S2) (a1 : Int32) (a2 : Int32) (hI : IvM g σ)   : Ok (fun z => IvM g z.2 ∧ (-3) ≤ z.1.toInt ∧ z.1.toInt ≤ 80) (fX12_feed σ a1 a2) := by
  unfold fX12_feed
  exact sX12_feed_0 σ a1 a2 hI

theorem sX12_found_73 {g : Nat} (k2 : S2 → Int32 → Int32 → Option Int32) (σ : S2) (x1 : Int32) (x2 : Int32) (x3 : Int32) (hI : IvM g σ) (p9000 : 1 ≤ x1.toInt) (p9001 : x1.toInt ≤ 6) (p9002 : 0 ≤ x2.toInt) (p9003 : x2.toInt ≤ 39) (p9004 : 0 ≤ x3.toInt) (p9005 : x3.toInt ≤ 1) (hk2 : ∀ (y0 : S2) (y1 : Int32) (y2 : Int32), IvM g y0 → 1 ≤ y1.toInt → y1.toInt ≤ 6 → 0 ≤ y2.toInt → y2.toInt ≤ 40 → x2.toInt + 1 ≤ y2.toInt → Ok (fun z => (-1) ≤ z.toInt ∧ z.toInt ≤ 39) (k2 y0 y1 y2)) : Ok (fun z => (-1) ≤ z.toInt ∧ z.toInt ≤ 39) (fX12_found_73 k2 σ x1 x2 x3) := by
  have hFU : ((FU : Nat) : Int) = 100000 := rfl
  unfold fX12_found_73
  have : (0 : Int32).toInt = 0 := by decide
  refine ok_eq (fun h1 => ?_) (fun h1 => ?_)
  · have : (1 : Int32).toInt = 1 := by decide
    have : ((x2 + 1) : Int32).toInt = (x2 : Int32).toInt + (1 : Int32).toInt := i32_add (by omega) (by omega)
    refine ok_nmI (fun v1 hv1 he2 => ?_)
    exact hk2 σ x1 v1 hI (by omega) (by omega) (by omega) (by omega) (by omega)
  · exact ok_some ⟨by show (-1) ≤ x2.toInt; omega, by show x2.toInt ≤ 39; omega⟩

theorem sX12_found_66 {g : Nat} (k29 : S2 → Int32 → Int32 → Int32 → Int32 → Option Int32) (σ : S2) (x1 : Int32) (x2 : Int32) (x4 : Int32) (s0 : Int32) (hI : IvM g σ) (p9000 : 1 ≤ x1.toInt) (p9001 : x1.toInt ≤ 6) (p9002 : 0 ≤ x2.toInt) (p9003 : x2.toInt ≤ 39) (p9004 : 0 ≤ x4.toInt) (p9005 : x4.toInt ≤ 5) (p9006 : 0 ≤ s0.toInt) (p9007 : s0.toInt ≤ 1) (hk29 : ∀ (y0 : S2) (y1 : Int32) (y2 : Int32) (y3 : Int32) (y4 : Int32), IvM g y0 → 1 ≤ y1.toInt → y1.toInt ≤ 6 → 0 ≤ y2.toInt → y2.toInt ≤ 39 → 0 ≤ y3.toInt → y3.toInt ≤ 1 → 0 ≤ y4.toInt → y4.toInt ≤ 6 → x4.toInt + 1 ≤ y4.toInt → x2.toInt ≤ y2.toInt → Ok (fun z => (-1) ≤ z.toInt ∧ z.toInt ≤ 39) (k29 y0 y1 y2 y3 y4)) : Ok (fun z => (-1) ≤ z.toInt ∧ z.toInt ≤ 39) (fX12_found_66 k29 σ x1 x2 x4 s0) := by
  have hFU : ((FU : Nat) : Int) = 100000 := rfl
  unfold fX12_found_66
  have : (1 : Int32).toInt = 1 := by decide
  have : ((x4 + 1) : Int32).toInt = (x4 : Int32).toInt + (1 : Int32).toInt := i32_add (by omega) (by omega)
  refine ok_nmI (fun v2 hv2 he1 => ?_)
  exact hk29 σ x1 x2 s0 v2 hI (by omega) (by omega) (by omega) (by omega) (by omega) (by omega) (by omega) (by omega) (by omega) (by omega)

theorem sX12_found_29 {g : Nat} (k2 : S2 → Int32 → Int32 → Option Int32) : ∀ (n : Nat) (σ : S2) (x1 : Int32) (x2 : Int32) (x3 : Int32) (x4 : Int32), IvM g σ → 1 ≤ x1.toInt → x1.toInt ≤ 6 → 0 ≤ x2.toInt → x2.toInt ≤ 39 → 0 ≤ x3.toInt → x3.toInt ≤ 1 → 0 ≤ x4.toInt → x4.toInt ≤ 6 → 6 - x4.toInt < (n : Int) → (∀ (y0 : S2) (y1 : Int32) (y2 : Int32), IvM g y0 → 1 ≤ y1.toInt → y1.toInt ≤ 6 → 0 ≤ y2.toInt → y2.toInt ≤ 40 → x2.toInt + 1 ≤ y2.toInt → Ok (fun z => (-1) ≤ z.toInt ∧ z.toInt ≤ 39) (k2 y0 y1 y2)) → Ok (fun z => (-1) ≤ z.toInt ∧ z.toInt ≤ 39) (fX12_found_29 k2 n σ x1 x2 x3 x4) := by
  have hFU : ((FU : Nat) : Int) = 100000 := rfl
  intro n
  induction n with
  | zero => intro σ x1 x2 x3 x4 hI p9000 p9001 p9002 p9003 p9004 p9005 p9006 p9007 hm hk2; exfalso; omega
  | succ n ih =>
    intro σ x1 x2 x3 x4 hI p9000 p9001 p9002 p9003 p9004 p9005 p9006 p9007 hm hk2
    unfold fX12_found_29
    refine ok_le (fun h1 => ?_) (fun h1 => ?_)
    · exact sX12_found_73 k2 σ x1 x2 x3 hI (by omega) (by omega) (by omega) (by omega) (by omega) (by omega) (fun y0 y1 y2 q0 q1 q2 q3 q4 q5 => hk2 y0 y1 y2 q0 q1 q2 q3 q4 (by omega))
    · have : (0 : Int32).toInt = 0 := by decide
      refine ok_eq (fun h2 => ?_) (fun h2 => ?_)
      · exact sX12_found_73 k2 σ x1 x2 x3 hI (by omega) (by omega) (by omega) (by omega) (by omega) (by omega) (fun y0 y1 y2 q0 q1 q2 q3 q4 q5 => hk2 y0 y1 y2 q0 q1 q2 q3 q4 (by omega))
      · have : (6 : Int32).toInt = 6 := by decide
        have : ((6 * x2) : Int32).toInt = 6 * (x2 : Int32).toInt := i32_mulL (by omega) (by omega) (by omega)
        have : (((6 * x2) + x4) : Int32).toInt = ((6 * x2) : Int32).toInt + (x4 : Int32).toInt := i32_add (by omega) (by omega)
        refine ok_ck (by omega) (by omega) ?_
        have : 0 ≤ (σ.1 2 (Int32.toNatClampNeg ((6 * x2) + x4))).toInt ∧ (σ.1 2 (Int32.toNatClampNeg ((6 * x2) + x4))).toInt ≤ 255 := hI.1 2 (Int32.toNatClampNeg ((6 * x2) + x4))
        refine ok_nmI (fun v3 hv3 he3 => ?_)
        refine ok_ck (by omega) (by omega) ?_
        have : 0 ≤ (σ.1 34 (Int32.toNatClampNeg x4)).toInt ∧ (σ.1 34 (Int32.toNatClampNeg x4)).toInt ≤ 255 := hI.1 34 (Int32.toNatClampNeg x4)
        refine ok_nmI (fun v4 hv4 he4 => ?_)
        refine ok_eq (fun h5 => ?_) (fun h5 => ?_)
        · have : (1 : Int32).toInt = 1 := by decide
          exact sX12_found_66 (fX12_found_29 k2 n) σ x1 x2 x4 1 hI (by omega) (by omega) (by omega) (by omega) (by omega) (by omega) (by omega) (by omega) (fun y0 y1 y2 y3 y4 q0 q1 q2 q3 q4 q5 q6 q7 q8 q9 q10 => ih y0 y1 y2 y3 y4 q0 q1 q2 q3 q4 q5 q6 q7 q8 (by omega) (fun z0 z1 z2 w0 w1 w2 w3 w4 w5 => hk2 z0 z1 z2 w0 w1 w2 w3 w4 (by omega)))
        · exact sX12_found_66 (fX12_found_29 k2 n) σ x1 x2 x4 0 hI (by omega) (by omega) (by omega) (by omega) (by omega) (by omega) (by omega) (by omega) (fun y0 y1 y2 y3 y4 q0 q1 q2 q3 q4 q5 q6 q7 q8 q9 q10 => ih y0 y1 y2 y3 y4 q0 q1 q2 q3 q4 q5 q6 q7 q8 (by omega) (fun z0 z1 z2 w0 w1 w2 w3 w4 w5 => hk2 z0 z1 z2 w0 w1 w2 w3 w4 (by omega)))

theorem sX12_found_25 {g : Nat} (k2 : S2 → Int32 → Int32 → Option Int32) (σ : S2) (x1 : Int32) (x2 : Int32) (s0 : Int32) (hI : IvM g σ) (p9000 : 1 ≤ x1.toInt) (p9001 : x1.toInt ≤ 6) (p9002 : 0 ≤ x2.toInt) (p9003 : x2.toInt ≤ 39) (p9004 : 0 ≤ s0.toInt) (p9005 : s0.toInt ≤ 1) (hk2 : ∀ (y0 : S2) (y1 : Int32) (y2 : Int32), IvM g y0 → 1 ≤ y1.toInt → y1.toInt ≤ 6 → 0 ≤ y2.toInt → y2.toInt ≤ 40 → x2.toInt + 1 ≤ y2.toInt → Ok (fun z => (-1) ≤ z.toInt ∧ z.toInt ≤ 39) (k2 y0 y1 y2)) : Ok (fun z => (-1) ≤ z.toInt ∧ z.toInt ≤ 39) (fX12_found_25 k2 σ x1 x2 s0) := by
  have hFU : ((FU : Nat) : Int) = 100000 := rfl
  unfold fX12_found_25
  have : (0 : Int32).toInt = 0 := by decide
  exact sX12_found_29 k2 FU σ x1 x2 s0 0 hI (by omega) (by omega) (by omega) (by omega) (by omega) (by omega) (by omega) (by omega) (by omega) (fun y0 y1 y2 q0 q1 q2 q3 q4 q5 => hk2 y0 y1 y2 q0 q1 q2 q3 q4 (by omega))

theorem sX12_found_2 {g : Nat} : ∀ (n : Nat) (σ : S2) (x1 : Int32) (x2 : Int32), IvM g σ → 1 ≤ x1.toInt → x1.toInt ≤ 6 → 0 ≤ x2.toInt → x2.toInt ≤ 40 → 40 - x2.toInt < (n : Int) → Ok (fun z => (-1) ≤ z.toInt ∧ z.toInt ≤ 39) (fX12_found_2 n σ x1 x2) := by
  have hFU : ((FU : Nat) : Int) = 100000 := rfl
  intro n
  induction n with
  | zero => intro σ x1 x2 hI p9000 p9001 p9002 p9003 hm; exfalso; omega
  | succ n ih =>
    intro σ x1 x2 hI p9000 p9001 p9002 p9003 hm
    unfold fX12_found_2
    have : 0 ≤ (σ.1 0 0).toInt ∧ (σ.1 0 0).toInt ≤ 40 := hI.1 0 0
    refine ok_le (fun h1 => ?_) (fun h1 => ?_)
    · have : ((-1) : Int32).toInt = (-1) := by decide
      exact ok_some ⟨by show (-1) ≤ ((-1) : Int32).toInt; omega, by show ((-1) : Int32).toInt ≤ 39; omega⟩
    · refine ok_ck (by omega) (by omega) ?_
      have : 0 ≤ (σ.1 1 (Int32.toNatClampNeg x2)).toInt ∧ (σ.1 1 (Int32.toNatClampNeg x2)).toInt ≤ 6 := hI.1 1 (Int32.toNatClampNeg x2)
      refine ok_nmI (fun v5 hv5 he2 => ?_)
      refine ok_eq (fun h3 => ?_) (fun h3 => ?_)
      · have : (1 : Int32).toInt = 1 := by decide
        exact sX12_found_25 (fX12_found_2 n) σ x1 x2 1 hI (by omega) (by omega) (by omega) (by omega) (by omega) (by omega) (fun y0 y1 y2 q0 q1 q2 q3 q4 q5 => ih y0 y1 y2 q0 q1 q2 q3 q4 (by omega))
      · have : (0 : Int32).toInt = 0 := by decide
        exact sX12_found_25 (fX12_found_2 n) σ x1 x2 0 hI (by omega) (by omega) (by omega) (by omega) (by omega) (by omega) (fun y0 y1 y2 q0 q1 q2 q3 q4 q5 => ih y0 y1 y2 q0 q1 q2 q3 q4 (by omega))

theorem sX12_found_0 {g : Nat} (σ : S2) (x1 : Int32) (hI : IvM g σ) (p9000 : 1 ≤ x1.toInt) (p9001 : x1.toInt ≤ 6)  : Ok (fun z => (-1) ≤ z.toInt ∧ z.toInt ≤ 39) (fX12_found_0 σ x1) := by
  have hFU : ((FU : Nat) : Int) = 100000 := rfl
  unfold fX12_found_0
  have : (0 : Int32).toInt = 0 := by decide
  exact sX12_found_2 FU σ x1 0 hI (by omega) (by omega) (by omega) (by omega) (by omega)

theorem sX12_found {g : Nat} (σ : S2) (a1 : Int32) (hI : IvM g σ) (p9000 : 1 ≤ a1.toInt) (p9001 : a1.toInt ≤ 6)  : Ok (fun z => (-1) ≤ z.toInt ∧ z.toInt ≤ 39) (fX12_found σ a1) := by
  unfold fX12_found
  exact sX12_found_0 σ a1 hI (by assumption) (by assumption)

theorem sX12_comesName_12 {g : Nat} : ∀ (n : Nat) (σ : S2) (x1 : Int32) (x2 : Int32), IvM g σ → 1 ≤ x1.toInt → x1.toInt ≤ 6 → 0 ≤ x2.toInt → x2.toInt ≤ 6 → 0 ≤ (σ.1 0 0).toInt → (σ.1 0 0).toInt ≤ 39 → 6 - x2.toInt < (n : Int) → Ok (fun z => IvM g z.2) (fX12_comesName_12 n σ x1 x2) := by
  have hFU : ((FU : Nat) : Int) = 100000 := rfl
  intro n
  induction n with
  | zero => intro σ x1 x2 hI p9000 p9001 p9002 p9003 p9004 p9005 hm; exfalso; omega
  | succ n ih =>
    intro σ x1 x2 hI p9000 p9001 p9002 p9003 p9004 p9005 hm
    unfold fX12_comesName_12
    refine ok_le (fun h1 => ?_) (fun h1 => ?_)
    · have : 0 ≤ (σ.1 0 0).toInt ∧ (σ.1 0 0).toInt ≤ 40 := hI.1 0 0
      have : (1 : Int32).toInt = 1 := by decide
      have : (((σ.1 0 0) + 1) : Int32).toInt = ((σ.1 0 0) : Int32).toInt + (1 : Int32).toInt := i32_add (by omega) (by omega)
      refine ok_nm (fun σ1 hs2 => ?_)
      have hI3 : IvM g σ1 := by rw [hs2]; exact IvM.wI hI rfl (show 0 ≤ (((σ.1 0 0) + 1) : Int32).toInt by omega) (show (((σ.1 0 0) + 1) : Int32).toInt ≤ 40 by omega)
      have : (σ1.1 0 0).toInt = (((σ.1 0 0) + 1) : Int32).toInt := by rw [hs2]; rfl
      exact ok_some hI3
    · refine ok_ck (by omega) (by omega) ?_
      have : 0 ≤ (σ.1 34 (Int32.toNatClampNeg x2)).toInt ∧ (σ.1 34 (Int32.toNatClampNeg x2)).toInt ≤ 255 := hI.1 34 (Int32.toNatClampNeg x2)
      refine ok_nmI (fun v2 hv2 he4 => ?_)
      have : (6 : Int32).toInt = 6 := by decide
      have : 0 ≤ (σ.1 0 0).toInt ∧ (σ.1 0 0).toInt ≤ 40 := hI.1 0 0
      have : ((6 * (σ.1 0 0)) : Int32).toInt = 6 * ((σ.1 0 0) : Int32).toInt := i32_mulL (by omega) (by omega) (by omega)
      have : (((6 * (σ.1 0 0)) + x2) : Int32).toInt = ((6 * (σ.1 0 0)) : Int32).toInt + (x2 : Int32).toInt := i32_add (by omega) (by omega)
      refine ok_ck (by omega) (by omega) ?_
      refine ok_nm (fun σ3 hs5 => ?_)
      have hI6 : IvM g σ3 := by rw [hs5]; exact IvM.wI hI rfl (show 0 ≤ (v2 : Int32).toInt by omega) (show (v2 : Int32).toInt ≤ 255 by omega)
      have : (σ3.1 0 0).toInt = (σ.1 0 0).toInt := by rw [hs5]; rfl
      have : (1 : Int32).toInt = 1 := by decide
      have : ((x2 + 1) : Int32).toInt = (x2 : Int32).toInt + (1 : Int32).toInt := i32_add (by omega) (by omega)
      refine ok_nmI (fun v4 hv4 he7 => ?_)
      have : 0 ≤ (σ3.1 0 0).toInt ∧ (σ3.1 0 0).toInt ≤ 40 := hI6.1 0 0
      exact ih σ3 x1 v4 hI6 (by omega) (by omega) (by omega) (by omega) (by omega) (by omega) (by omega)

theorem sX12_comesName_0 {g : Nat} (σ : S2) (x1 : Int32) (hI : IvM g σ) (p9000 : 1 ≤ x1.toInt) (p9001 : x1.toInt ≤ 6) (p9002 : 0 ≤ (σ.1 0 0).toInt) (p9003 : (σ.1 0 0).toInt ≤ 39)  : Ok (fun z => IvM g z.2) (fX12_comesName_0 σ x1) := by
  have hFU : ((FU : Nat) : Int) = 100000 := rfl
  unfold fX12_comesName_0
  have : 0 ≤ (σ.1 0 0).toInt ∧ (σ.1 0 0).toInt ≤ 40 := hI.1 0 0
  refine ok_ck (by omega) (by omega) ?_
  refine ok_nm (fun σ5 hs1 => ?_)
  have hI2 : IvM g σ5 := by rw [hs1]; exact IvM.wI hI rfl (show 0 ≤ (x1 : Int32).toInt by omega) (show (x1 : Int32).toInt ≤ 6 by omega)
  have : (σ5.1 0 0).toInt = (σ.1 0 0).toInt := by rw [hs1]; rfl
  have : (0 : Int32).toInt = 0 := by decide
  have : 0 ≤ (σ5.1 0 0).toInt ∧ (σ5.1 0 0).toInt ≤ 40 := hI2.1 0 0
  exact sX12_comesName_12 FU σ5 x1 0 hI2 (by omega) (by omega) (by omega) (by omega) (by omega) (by omega) (by omega)

theorem sX12_comesName {g : Nat} (σ : S2) (a1 : Int32) (hI : IvM g σ) (p9000 : 1 ≤ a1.toInt) (p9001 : a1.toInt ≤ 6) (p9002 : 0 ≤ (σ.1 0 0).toInt) (p9003 : (σ.1 0 0).toInt ≤ 39)  : Ok (fun z => IvM g z.2) (fX12_comesName σ a1) := by
  unfold fX12_comesName
  exact sX12_comesName_0 σ a1 hI (by assumption) (by assumption) (by assumption) (by assumption)

theorem sX12_name_85 {g : Nat} (σ : S2) (x1 : Int32) (hI : IvM g σ) (p9000 : 0 ≤ x1.toInt) (p9001 : x1.toInt ≤ 40)  : Ok (fun z => IvM g z.2 ∧ (-3) ≤ z.1.toInt ∧ z.1.toInt ≤ 40) (fX12_name_85 σ x1) := by
  have hFU : ((FU : Nat) : Int) = 100000 := rfl
  unfold fX12_name_85
  have : (0 : Int32).toInt = 0 := by decide
  refine ok_nm (fun σ1 hs1 => ?_)
  have hI2 : IvM g σ1 := by rw [hs1]; exact IvM.wI hI rfl (show 0 ≤ (0 : Int32).toInt by omega) (show (0 : Int32).toInt ≤ 80 by omega)
  have : (σ1.1 0 22).toInt = (0 : Int32).toInt := by rw [hs1]; rfl
  have : (σ1.1 0 0).toInt = (σ.1 0 0).toInt := by rw [hs1]; rfl
  exact ok_some ⟨hI2, by show (-3) ≤ x1.toInt; omega, by show x1.toInt ≤ 40; omega⟩

theorem sX12_name_68 {g : Nat} (σ : S2) (x1 : Int32) (hI : IvM g σ) (p9000 : (-1) ≤ x1.toInt) (p9001 : x1.toInt ≤ 39) (p9002 : 1 ≤ (σ.1 0 22).toInt) (p9003 : (σ.1 0 22).toInt ≤ 6) (p9004 : (0 ≤ x1.toInt ∨ (σ.1 0 0).toInt ≤ 39))  : Ok (fun z => IvM g z.2 ∧ (-3) ≤ z.1.toInt ∧ z.1.toInt ≤ 40) (fX12_name_68 σ x1) := by
  have hFU : ((FU : Nat) : Int) = 100000 := rfl
  unfold fX12_name_68
  have : (0 : Int32).toInt = 0 := by decide
  refine ok_le (fun h1 => ?_) (fun h1 => ?_)
  · exact sX12_name_85 σ x1 hI (by omega) (by omega)
  · have : 0 ≤ (σ.1 0 0).toInt ∧ (σ.1 0 0).toInt ≤ 40 := hI.1 0 0
    refine ok_nmI (fun v2 hv2 he2 => ?_)
    have : 0 ≤ (σ.1 0 22).toInt ∧ (σ.1 0 22).toInt ≤ 80 := hI.1 0 22
    refine ok_bs (sX12_comesName σ (σ.1 0 22) hI (by omega) (by omega) (by omega) (by omega)) (fun r3 σ4 hr3 => ?_)
    have hr3 : IvM g σ4 := hr3
    exact sX12_name_85 σ4 v2 hr3 (by omega) (by omega)

theorem sX12_name_17 {g : Nat} : ∀ (n : Nat) (σ : S2) (x1 : Int32), IvM g σ → 0 ≤ x1.toInt → x1.toInt ≤ 6 → 1 ≤ (σ.1 0 22).toInt → (σ.1 0 22).toInt ≤ 6 → 6 - x1.toInt < (n : Int) → Ok (fun z => IvM g z.2 ∧ (-3) ≤ z.1.toInt ∧ z.1.toInt ≤ 40) (fX12_name_17 n σ x1) := by
  have hFU : ((FU : Nat) : Int) = 100000 := rfl
  intro n
  induction n with
  | zero => intro σ x1 hI p9000 p9001 p9002 p9003 hm; exfalso; omega
  | succ n ih =>
    intro σ x1 hI p9000 p9001 p9002 p9003 hm
    unfold fX12_name_17
    have : 0 ≤ (σ.1 0 22).toInt ∧ (σ.1 0 22).toInt ≤ 80 := hI.1 0 22
    refine ok_le (fun h1 => ?_) (fun h1 => ?_)
    · refine ok_bi (sX12_found σ (σ.1 0 22) hI (by omega) (by omega)) (fun r6 hr2 => ?_)
      obtain ⟨p3, p4⟩ := hr2
      have p3 : (-1) ≤ r6.toInt := p3
      have p4 : r6.toInt ≤ 39 := p4
      have : (0 : Int32).toInt = 0 := by decide
      refine ok_le (fun h5 => ?_) (fun h5 => ?_)
      · exact sX12_name_68 σ r6 hI (by omega) (by omega) (by omega) (by omega) (by omega)
      · have : 0 ≤ (σ.1 0 0).toInt ∧ (σ.1 0 0).toInt ≤ 40 := hI.1 0 0
        have : (40 : Int32).toInt = 40 := by decide
        refine ok_eq (fun h6 => ?_) (fun h6 => ?_)
        · have : ((-3) : Int32).toInt = (-3) := by decide
          exact ok_some ⟨hI, by show (-3) ≤ ((-3) : Int32).toInt; omega, by show ((-3) : Int32).toInt ≤ 40; omega⟩
        · exact sX12_name_68 σ r6 hI (by omega) (by omega) (by omega) (by omega) (by omega)
    · refine ok_ck (by omega) (by omega) ?_
      have : 0 ≤ (σ.1 19 (Int32.toNatClampNeg x1)).toInt ∧ (σ.1 19 (Int32.toNatClampNeg x1)).toInt ≤ 255 := hI.1 19 (Int32.toNatClampNeg x1)
      refine ok_nmI (fun v8 hv8 he7 => ?_)
      refine ok_ck (by omega) (by omega) ?_
      refine ok_nm (fun σ9 hs8 => ?_)
      have hI9 : IvM g σ9 := by rw [hs8]; exact IvM.wI hI rfl (show 0 ≤ (v8 : Int32).toInt by omega) (show (v8 : Int32).toInt ≤ 255 by omega)
      have : (σ9.1 0 22).toInt = (σ.1 0 22).toInt := by rw [hs8]; rfl
      have : (σ9.1 0 0).toInt = (σ.1 0 0).toInt := by rw [hs8]; rfl
      have : (1 : Int32).toInt = 1 := by decide
      have : ((x1 + 1) : Int32).toInt = (x1 : Int32).toInt + (1 : Int32).toInt := i32_add (by omega) (by omega)
      refine ok_nmI (fun v10 hv10 he10 => ?_)
      have : 0 ≤ (σ9.1 0 22).toInt ∧ (σ9.1 0 22).toInt ≤ 80 := hI9.1 0 22
      exact ih σ9 v10 hI9 (by omega) (by omega) (by omega) (by omega) (by omega)

theorem sX12_name_0 {g : Nat} (σ : S2) (hI : IvM g σ)   : Ok (fun z => IvM g z.2 ∧ (-3) ≤ z.1.toInt ∧ z.1.toInt ≤ 40) (fX12_name_0 σ) := by
  have hFU : ((FU : Nat) : Int) = 100000 := rfl
  unfold fX12_name_0
  have : 0 ≤ (σ.1 0 22).toInt ∧ (σ.1 0 22).toInt ≤ 80 := hI.1 0 22
  have : (1 : Int32).toInt = 1 := by decide
  have : (6 : Int32).toInt = 6 := by decide
  refine ok_bi (sX12_in σ (σ.1 0 22) 1 6 hI (by omega) (by omega) (by omega) (by omega)) (fun r11 hr1 => ?_)
  obtain ⟨p2, p3, p4⟩ := hr1
  have p2 : 0 ≤ r11.toInt := p2
  have p3 : r11.toInt ≤ 1 := p3
  have p4 : r11.toInt ≠ 0 → (1 : Int32).toInt ≤ (σ.1 0 22).toInt ∧ (σ.1 0 22).toInt ≤ (6 : Int32).toInt := p4
  have : (0 : Int32).toInt = 0 := by decide
  refine ok_eq (fun h5 => ?_) (fun h5 => ?_)
  · have : ((-1) : Int32).toInt = (-1) := by decide
    exact ok_some ⟨hI, by show (-3) ≤ ((-1) : Int32).toInt; omega, by show ((-1) : Int32).toInt ≤ 40; omega⟩
  · exact sX12_name_17 FU σ 0 hI (by omega) (by omega) (by omega) (by omega) (by omega)

theorem sX12_name {g : Nat} (σ : S2) (hI : IvM g σ)   : Ok (fun z => IvM g z.2 ∧ (-3) ≤ z.1.toInt ∧ z.1.toInt ≤ 40) (fX12_name σ) := by
  unfold fX12_name
  exact sX12_name_0 σ hI

theorem sX12_numberOf_5 {g : Nat} : ∀ (n : Nat) (σ : S2) (x1 : Int32) (x3 : Int32) (x4 : Int32), IvM g σ → 0 ≤ x1.toInt → x1.toInt ≤ 39 → 0 ≤ x4.toInt → x4.toInt ≤ 6 → 6 - x4.toInt < (n : Int) → Ok (fun z => 0 ≤ z.toInt ∧ z.toInt ≤ 999) (fX12_numberOf_5 n σ x1 x3 x4) := by
  have hFU : ((FU : Nat) : Int) = 100000 := rfl
  intro n
  induction n with
  | zero => intro σ x1 x3 x4 hI p9000 p9001 p9002 p9003 hm; exfalso; omega
  | succ n ih =>
    intro σ x1 x3 x4 hI p9000 p9001 p9002 p9003 hm
    unfold fX12_numberOf_5
    refine ok_ck (by omega) (by omega) ?_
    have : 0 ≤ (σ.1 1 (Int32.toNatClampNeg x1)).toInt ∧ (σ.1 1 (Int32.toNatClampNeg x1)).toInt ≤ 6 := hI.1 1 (Int32.toNatClampNeg x1)
    refine ok_nmI (fun v1 hv1 he1 => ?_)
    refine ok_le (fun h2 => ?_) (fun h2 => ?_)
    · have : (1000 : Int32).toInt = 1000 := by decide
      refine ok_dz (by omega) ?_
      have : 0 ≤ ((UInt32.toInt32 ((Int32.toUInt32 x3) >>> ((Int32.toUInt32 7) &&& (Int32.toUInt32 31)))) : Int32).toInt ∧ ((UInt32.toInt32 ((Int32.toUInt32 x3) >>> ((Int32.toUInt32 7) &&& (Int32.toUInt32 31)))) : Int32).toInt ≤ 33554431 := i32_ushr 7 (by decide) (by decide)
      have : (((UInt32.toInt32 ((Int32.toUInt32 x3) >>> ((Int32.toUInt32 7) &&& (Int32.toUInt32 31)))) - (((UInt32.toInt32 ((Int32.toUInt32 x3) >>> ((Int32.toUInt32 7) &&& (Int32.toUInt32 31)))) / 1000) * 1000)) : Int32).toInt = ((UInt32.toInt32 ((Int32.toUInt32 x3) >>> ((Int32.toUInt32 7) &&& (Int32.toUInt32 31)))) : Int32).toInt % 1000 := i32_rem (by first | decide | omega | rfl) (by omega) (by omega)
      exact ok_some ⟨by show 0 ≤ ((UInt32.toInt32 ((Int32.toUInt32 x3) >>> ((Int32.toUInt32 7) &&& (Int32.toUInt32 31)))) - (((UInt32.toInt32 ((Int32.toUInt32 x3) >>> ((Int32.toUInt32 7) &&& (Int32.toUInt32 31)))) / 1000) * 1000)).toInt; omega, by show ((UInt32.toInt32 ((Int32.toUInt32 x3) >>> ((Int32.toUInt32 7) &&& (Int32.toUInt32 31)))) - (((UInt32.toInt32 ((Int32.toUInt32 x3) >>> ((Int32.toUInt32 7) &&& (Int32.toUInt32 31)))) / 1000) * 1000)).toInt ≤ 999; omega⟩
    · have : (6 : Int32).toInt = 6 := by decide
      have : ((6 * x1) : Int32).toInt = 6 * (x1 : Int32).toInt := i32_mulL (by omega) (by omega) (by omega)
      have : (((6 * x1) + x4) : Int32).toInt = ((6 * x1) : Int32).toInt + (x4 : Int32).toInt := i32_add (by omega) (by omega)
      refine ok_ck (by omega) (by omega) ?_
      have : 0 ≤ (σ.1 2 (Int32.toNatClampNeg ((6 * x1) + x4))).toInt ∧ (σ.1 2 (Int32.toNatClampNeg ((6 * x1) + x4))).toInt ≤ 255 := hI.1 2 (Int32.toNatClampNeg ((6 * x1) + x4))
      refine ok_nmI (fun v3 hv3 he3 => ?_)
      have := i32_rng x3
      have := i32_rng (x3 ^^^ v3)
      have : (16777619 : Int32).toInt = 16777619 := by decide
      have := i32_rng ((x3 ^^^ v3) * 16777619)
      refine ok_nmI (fun v4 hv4 he4 => ?_)
      have : (1 : Int32).toInt = 1 := by decide
      have : ((x4 + 1) : Int32).toInt = (x4 : Int32).toInt + (1 : Int32).toInt := i32_add (by omega) (by omega)
      refine ok_nmI (fun v5 hv5 he5 => ?_)
      have := i32_rng v4
      exact ih σ x1 v4 v5 hI (by omega) (by omega) (by omega) (by omega) (by omega)

theorem sX12_numberOf_0 {g : Nat} (σ : S2) (x1 : Int32) (x2 : Int32) (hI : IvM g σ) (p9000 : 0 ≤ x1.toInt) (p9001 : x1.toInt ≤ 39)  : Ok (fun z => 0 ≤ z.toInt ∧ z.toInt ≤ 999) (fX12_numberOf_0 σ x1 x2) := by
  have hFU : ((FU : Nat) : Int) = 100000 := rfl
  unfold fX12_numberOf_0
  have := i32_rng x2
  have : (0 : Int32).toInt = 0 := by decide
  exact sX12_numberOf_5 FU σ x1 x2 0 hI (by omega) (by omega) (by omega) (by omega) (by omega)

theorem sX12_numberOf {g : Nat} (σ : S2) (a1 : Int32) (a2 : Int32) (hI : IvM g σ) (p9000 : 0 ≤ a1.toInt) (p9001 : a1.toInt ≤ 39)  : Ok (fun z => 0 ≤ z.toInt ∧ z.toInt ≤ 999) (fX12_numberOf σ a1 a2) := by
  unfold fX12_numberOf
  exact sX12_numberOf_0 σ a1 a2 hI (by assumption) (by assumption)

theorem sX12_number_0 {g : Nat} (σ : S2) (x1 : Int32) (x2 : Int32) (hI : IvM g σ)   : Ok (fun z => (-1) ≤ z.toInt ∧ z.toInt ≤ 999) (fX12_number_0 σ x1 x2) := by
  have hFU : ((FU : Nat) : Int) = 100000 := rfl
  unfold fX12_number_0
  have := i32_rng x1
  refine ok_bi (sX12_isName σ x1 hI) (fun r1 hr1 => ?_)
  obtain ⟨p2, p3, p4⟩ := hr1
  have p2 : 0 ≤ r1.toInt := p2
  have p3 : r1.toInt ≤ 1 := p3
  have p4 : r1.toInt ≠ 0 → 0 ≤ x1.toInt ∧ x1.toInt < (σ.1 0 0).toInt := p4
  have : 0 ≤ (σ.1 0 0).toInt ∧ (σ.1 0 0).toInt ≤ 40 := hI.1 0 0
  have : (0 : Int32).toInt = 0 := by decide
  refine ok_eq (fun h5 => ?_) (fun h5 => ?_)
  · have : ((-1) : Int32).toInt = (-1) := by decide
    exact ok_some ⟨by show (-1) ≤ ((-1) : Int32).toInt; omega, by show ((-1) : Int32).toInt ≤ 999; omega⟩
  · have := i32_rng x2
    refine ok_bi (sX12_numberOf σ x1 x2 hI (by omega) (by omega)) (fun r3 hr6 => ?_)
    obtain ⟨p7, p8⟩ := hr6
    have p7 : 0 ≤ r3.toInt := p7
    have p8 : r3.toInt ≤ 999 := p8
    exact ok_some ⟨by show (-1) ≤ r3.toInt; omega, by show r3.toInt ≤ 999; omega⟩

theorem sX12_number {g : Nat} (σ : S2) (a1 : Int32) (a2 : Int32) (hI : IvM g σ)   : Ok (fun z => (-1) ≤ z.toInt ∧ z.toInt ≤ 999) (fX12_number σ a1 a2) := by
  unfold fX12_number
  exact sX12_number_0 σ a1 a2 hI

theorem sX12_keeper_0 {g : Nat} (σ : S2) (x1 : Int32) (x2 : Int32) (hI : IvM g σ)   : Ok (fun z => IvM g z.2 ∧ (-3) ≤ z.1.toInt ∧ z.1.toInt ≤ 11) (fX12_keeper_0 σ x1 x2) := by
  have hFU : ((FU : Nat) : Int) = 100000 := rfl
  unfold fX12_keeper_0
  have := i32_rng x1
  have : (0 : Int32).toInt = 0 := by decide
  have : (5 : Int32).toInt = 5 := by decide
  refine ok_bi (sX12_in σ x1 0 5 hI (by omega) (by omega) (by omega) (by omega)) (fun r1 hr1 => ?_)
  obtain ⟨p2, p3, p4⟩ := hr1
  have p2 : 0 ≤ r1.toInt := p2
  have p3 : r1.toInt ≤ 1 := p3
  have p4 : r1.toInt ≠ 0 → (0 : Int32).toInt ≤ x1.toInt ∧ x1.toInt ≤ (5 : Int32).toInt := p4
  refine ok_eq (fun h5 => ?_) (fun h5 => ?_)
  · have : ((-1) : Int32).toInt = (-1) := by decide
    exact ok_some ⟨hI, by show (-3) ≤ ((-1) : Int32).toInt; omega, by show ((-1) : Int32).toInt ≤ 11; omega⟩
  · have := i32_rng x2
    have : (1 : Int32).toInt = 1 := by decide
    have : (8 : Int32).toInt = 8 := by decide
    refine ok_bi (sX12_in σ x2 1 8 hI (by omega) (by omega) (by omega) (by omega)) (fun r3 hr6 => ?_)
    obtain ⟨p7, p8, p9⟩ := hr6
    have p7 : 0 ≤ r3.toInt := p7
    have p8 : r3.toInt ≤ 1 := p8
    have p9 : r3.toInt ≠ 0 → (1 : Int32).toInt ≤ x2.toInt ∧ x2.toInt ≤ (8 : Int32).toInt := p9
    refine ok_eq (fun h10 => ?_) (fun h10 => ?_)
    · have : ((-1) : Int32).toInt = (-1) := by decide
      exact ok_some ⟨hI, by show (-3) ≤ ((-1) : Int32).toInt; omega, by show ((-1) : Int32).toInt ≤ 11; omega⟩
    · have : 0 ≤ (σ.1 0 3).toInt ∧ (σ.1 0 3).toInt ≤ 12 := hI.1 0 3
      have : (12 : Int32).toInt = 12 := by decide
      refine ok_eq (fun h11 => ?_) (fun h11 => ?_)
      · have : ((-3) : Int32).toInt = (-3) := by decide
        exact ok_some ⟨hI, by show (-3) ≤ ((-3) : Int32).toInt; omega, by show ((-3) : Int32).toInt ≤ 11; omega⟩
      · refine ok_ck (by omega) (by omega) ?_
        refine ok_nm (fun σ5 hs12 => ?_)
        have hI13 : IvM g σ5 := by rw [hs12]; exact IvM.wI hI rfl (show 0 ≤ (x1 : Int32).toInt by omega) (show (x1 : Int32).toInt ≤ 5 by omega)
        have : (σ5.1 0 3).toInt = (σ.1 0 3).toInt := by rw [hs12]; rfl
        have : 0 ≤ (σ5.1 0 3).toInt ∧ (σ5.1 0 3).toInt ≤ 12 := hI13.1 0 3
        refine ok_ck (by omega) (by omega) ?_
        refine ok_nm (fun σ6 hs14 => ?_)
        have hI15 : IvM g σ6 := by rw [hs14]; exact IvM.w4 hI13 (by omega) (show 0 ≤ (x2 : Int32).toInt by omega) (show (x2 : Int32).toInt ≤ 8 by omega)
        have : 1 ≤ (σ6.1 4 (Int32.toNatClampNeg (σ5.1 0 3))).toInt := by rw [hs14, ux_wI_eq]; omega
        have := i32_nat (i := (σ5.1 0 3)) (by omega)
        have : (σ6.1 0 3).toInt = (σ5.1 0 3).toInt := by rw [hs14]; rfl
        have : 0 ≤ (σ6.1 0 3).toInt ∧ (σ6.1 0 3).toInt ≤ 12 := hI15.1 0 3
        have : (((σ6.1 0 3) + 1) : Int32).toInt = ((σ6.1 0 3) : Int32).toInt + (1 : Int32).toInt := i32_add (by omega) (by omega)
        refine ok_nm (fun σ7 hs16 => ?_)
        have hI17 : IvM g σ7 := by rw [hs16]; exact IvM.w03 (Int32.toNatClampNeg (σ5.1 0 3)) hI15 (by omega) (by assumption) (by omega) (show 0 ≤ (((σ6.1 0 3) + 1) : Int32).toInt by omega) (show (((σ6.1 0 3) + 1) : Int32).toInt ≤ 12 by omega)
        have : (σ7.1 0 3).toInt = (((σ6.1 0 3) + 1) : Int32).toInt := by rw [hs16]; rfl
        have : 0 ≤ (σ7.1 0 3).toInt ∧ (σ7.1 0 3).toInt ≤ 12 := hI17.1 0 3
        have : (((σ7.1 0 3) - 1) : Int32).toInt = ((σ7.1 0 3) : Int32).toInt - (1 : Int32).toInt := i32_sub (by omega) (by omega)
        exact ok_some ⟨hI17, by show (-3) ≤ ((σ7.1 0 3) - 1).toInt; omega, by show ((σ7.1 0 3) - 1).toInt ≤ 11; omega⟩

theorem sX12_keeper {g : Nat} (σ : S2) (a1 : Int32) (a2 : Int32) (hI : IvM g σ)   : Ok (fun z => IvM g z.2 ∧ (-3) ≤ z.1.toInt ∧ z.1.toInt ≤ 11) (fX12_keeper σ a1 a2) := by
  unfold fX12_keeper
  exact sX12_keeper_0 σ a1 a2 hI

theorem sX12_countsNow_21 {g : Nat} (σ : S2) (x1 : Int32) (hI : IvM g σ) (p9000 : 0 ≤ x1.toInt) (p9001 : x1.toInt ≤ 11) (p9002 : x1.toInt < (σ.1 0 3).toInt)  : Ok (fun z => 0 ≤ z.toInt ∧ z.toInt ≤ 16 ∧ 1 ≤ z.toInt) (fX12_countsNow_21 σ x1) := by
  have hFU : ((FU : Nat) : Int) = 100000 := rfl
  unfold fX12_countsNow_21
  refine ok_ck (by omega) (by omega) ?_
  have : 0 ≤ (σ.1 4 (Int32.toNatClampNeg x1)).toInt ∧ (σ.1 4 (Int32.toNatClampNeg x1)).toInt ≤ 8 := hI.1 4 (Int32.toNatClampNeg x1); have := i32_nat (i := x1) (by omega); have : 1 ≤ (σ.1 4 (Int32.toNatClampNeg x1)).toInt := hI.2.1 (Int32.toNatClampNeg x1) (by omega)
  refine ok_nmI (fun v1 hv1 he1 => ?_)
  have : (2 : Int32).toInt = 2 := by decide
  have : ((2 * v1) : Int32).toInt = 2 * (v1 : Int32).toInt := i32_mulL (by omega) (by omega) (by omega)
  exact ok_some ⟨by show 0 ≤ (2 * v1).toInt; omega, by show (2 * v1).toInt ≤ 16; omega, by show 1 ≤ (2 * v1).toInt; omega⟩

theorem sX12_countsNow_0 {g : Nat} (σ : S2) (x1 : Int32) (hI : IvM g σ) (p9000 : 0 ≤ x1.toInt) (p9001 : x1.toInt ≤ 11) (p9002 : x1.toInt < (σ.1 0 3).toInt)  : Ok (fun z => 0 ≤ z.toInt ∧ z.toInt ≤ 16 ∧ 1 ≤ z.toInt) (fX12_countsNow_0 σ x1) := by
  have hFU : ((FU : Nat) : Int) = 100000 := rfl
  unfold fX12_countsNow_0
  refine ok_ck (by omega) (by omega) ?_
  have : 0 ≤ (σ.1 5 (Int32.toNatClampNeg x1)).toInt ∧ (σ.1 5 (Int32.toNatClampNeg x1)).toInt ≤ 6 := hI.1 5 (Int32.toNatClampNeg x1)
  refine ok_nmI (fun v2 hv2 he1 => ?_)
  have : (1 : Int32).toInt = 1 := by decide
  refine ok_eq (fun h2 => ?_) (fun h2 => ?_)
  · exact sX12_countsNow_21 σ x1 hI (by omega) (by omega) (by omega)
  · refine ok_ck (by omega) (by omega) ?_
    refine ok_nmI (fun v3 hv3 he3 => ?_)
    have : (6 : Int32).toInt = 6 := by decide
    refine ok_eq (fun h4 => ?_) (fun h4 => ?_)
    · exact sX12_countsNow_21 σ x1 hI (by omega) (by omega) (by omega)
    · refine ok_ck (by omega) (by omega) ?_
      have : 0 ≤ (σ.1 4 (Int32.toNatClampNeg x1)).toInt ∧ (σ.1 4 (Int32.toNatClampNeg x1)).toInt ≤ 8 := hI.1 4 (Int32.toNatClampNeg x1); have := i32_nat (i := x1) (by omega); have : 1 ≤ (σ.1 4 (Int32.toNatClampNeg x1)).toInt := hI.2.1 (Int32.toNatClampNeg x1) (by omega)
      refine ok_nmI (fun v4 hv4 he5 => ?_)
      exact ok_some ⟨by show 0 ≤ v4.toInt; omega, by show v4.toInt ≤ 16; omega, by show 1 ≤ v4.toInt; omega⟩

theorem sX12_countsNow {g : Nat} (σ : S2) (a1 : Int32) (hI : IvM g σ) (p9000 : 0 ≤ a1.toInt) (p9001 : a1.toInt ≤ 11) (p9002 : a1.toInt < (σ.1 0 3).toInt)  : Ok (fun z => 0 ≤ z.toInt ∧ z.toInt ≤ 16 ∧ 1 ≤ z.toInt) (fX12_countsNow σ a1) := by
  unfold fX12_countsNow
  exact sX12_countsNow_0 σ a1 hI (by assumption) (by assumption) (by assumption)

theorem sX12_become_136 {g : Nat} (k37 : S2 → Int32 → Int32 → Int32 → Int32 → Option (Int32 × S2)) (σ : S2) (x1 : Int32) (x2 : Int32) (x3 : Int32) (x4 : Int32) (hI : IvM g σ) (p9000 : 0 ≤ x1.toInt) (p9001 : x1.toInt ≤ 11) (p9002 : 0 ≤ x2.toInt) (p9003 : x2.toInt ≤ 6) (p9004 : 4 ≤ x3.toInt) (p9005 : x3.toInt ≤ 4) (p9006 : 0 ≤ x4.toInt) (p9007 : x4.toInt ≤ 479) (hk37 : ∀ (y0 : S2) (y1 : Int32) (y2 : Int32) (y3 : Int32) (y4 : Int32), IvM g y0 → 0 ≤ y1.toInt → y1.toInt ≤ 11 → 0 ≤ y2.toInt → y2.toInt ≤ 6 → 0 ≤ y3.toInt → y3.toInt ≤ 6 → 0 ≤ y4.toInt → y4.toInt ≤ 480 → x4.toInt + 1 ≤ y4.toInt → Ok (fun z => IvM g z.2 ∧ (-1) ≤ z.1.toInt ∧ z.1.toInt ≤ 6) (k37 y0 y1 y2 y3 y4)) : Ok (fun z => IvM g z.2 ∧ (-1) ≤ z.1.toInt ∧ z.1.toInt ≤ 6) (fX12_become_136 k37 σ x1 x2 x3 x4) := by
  have hFU : ((FU : Nat) : Int) = 100000 := rfl
  unfold fX12_become_136
  have : (1 : Int32).toInt = 1 := by decide
  have : ((x4 + 1) : Int32).toInt = (x4 : Int32).toInt + (1 : Int32).toInt := i32_add (by omega) (by omega)
  refine ok_nmI (fun v1 hv1 he1 => ?_)
  exact hk37 σ x1 x2 x3 v1 hI (by omega) (by omega) (by omega) (by omega) (by omega) (by omega) (by omega) (by omega) (by omega)

theorem sX12_become_118 {g : Nat} (k37 : S2 → Int32 → Int32 → Int32 → Int32 → Option (Int32 × S2)) (σ : S2) (x1 : Int32) (x2 : Int32) (x3 : Int32) (x4 : Int32) (s0 : Int32) (s1 : Int32) (hI : IvM g σ) (p9000 : 0 ≤ x1.toInt) (p9001 : x1.toInt ≤ 11) (p9002 : 0 ≤ x2.toInt) (p9003 : x2.toInt ≤ 6) (p9004 : 4 ≤ x3.toInt) (p9005 : x3.toInt ≤ 4) (p9006 : 0 ≤ x4.toInt) (p9007 : x4.toInt ≤ 479) (p9008 : 0 ≤ s1.toInt) (p9009 : s1.toInt ≤ 479) (hk37 : ∀ (y0 : S2) (y1 : Int32) (y2 : Int32) (y3 : Int32) (y4 : Int32), IvM g y0 → 0 ≤ y1.toInt → y1.toInt ≤ 11 → 0 ≤ y2.toInt → y2.toInt ≤ 6 → 0 ≤ y3.toInt → y3.toInt ≤ 6 → 0 ≤ y4.toInt → y4.toInt ≤ 480 → x4.toInt + 1 ≤ y4.toInt → Ok (fun z => IvM g z.2 ∧ (-1) ≤ z.1.toInt ∧ z.1.toInt ≤ 6) (k37 y0 y1 y2 y3 y4)) : Ok (fun z => IvM g z.2 ∧ (-1) ≤ z.1.toInt ∧ z.1.toInt ≤ 6) (fX12_become_118 k37 σ x1 x2 x3 x4 s0 s1) := by
  have hFU : ((FU : Nat) : Int) = 100000 := rfl
  unfold fX12_become_118
  refine ok_ck (by omega) (by omega) ?_
  have := i32_rng s0
  refine ok_nm (fun σ2 hs1 => ?_)
  have hI2 : IvM g σ2 := by rw [hs1]; exact IvM.wI hI rfl (i32_rng _).1 (i32_rng _).2
  refine ok_ck (by omega) (by omega) ?_
  have : (0 : Int32).toInt = 0 := by decide
  refine ok_nm (fun σ3 hs3 => ?_)
  have hI4 : IvM g σ3 := by rw [hs3]; exact IvM.wI hI2 rfl (i32_rng _).1 (i32_rng _).2
  refine ok_ck (by omega) (by omega) ?_
  have : ((-2) : Int32).toInt = (-2) := by decide
  refine ok_nm (fun σ4 hs5 => ?_)
  have hI6 : IvM g σ4 := by rw [hs5]; exact IvM.wI hI4 rfl (show (-2) ≤ ((-2) : Int32).toInt by omega) (show ((-2) : Int32).toInt ≤ 11 by omega)
  exact sX12_become_136 k37 σ4 x1 x2 x3 x4 hI6 (by omega) (by omega) (by omega) (by omega) (by omega) (by omega) (by omega) (by omega) (fun y0 y1 y2 y3 y4 q0 q1 q2 q3 q4 q5 q6 q7 q8 q9 => hk37 y0 y1 y2 y3 y4 q0 q1 q2 q3 q4 q5 q6 q7 q8 (by omega))

theorem sX12_become_37 {g : Nat} : ∀ (n : Nat) (σ : S2) (x1 : Int32) (x2 : Int32) (x3 : Int32) (x4 : Int32), IvM g σ → 0 ≤ x1.toInt → x1.toInt ≤ 11 → 0 ≤ x2.toInt → x2.toInt ≤ 6 → 0 ≤ x3.toInt → x3.toInt ≤ 6 → 0 ≤ x4.toInt → x4.toInt ≤ 480 → 480 - x4.toInt < (n : Int) → Ok (fun z => IvM g z.2 ∧ (-1) ≤ z.1.toInt ∧ z.1.toInt ≤ 6) (fX12_become_37 n σ x1 x2 x3 x4) := by
  have hFU : ((FU : Nat) : Int) = 100000 := rfl
  intro n
  induction n with
  | zero => intro σ x1 x2 x3 x4 hI p9000 p9001 p9002 p9003 p9004 p9005 p9006 p9007 hm; exfalso; omega
  | succ n ih =>
    intro σ x1 x2 x3 x4 hI p9000 p9001 p9002 p9003 p9004 p9005 p9006 p9007 hm
    unfold fX12_become_37
    have : (480 : Int32).toInt = 480 := by decide
    refine ok_le (fun h1 => ?_) (fun h1 => ?_)
    · exact ok_some ⟨hI, by show (-1) ≤ x3.toInt; omega, by show x3.toInt ≤ 6; omega⟩
    · have : (4 : Int32).toInt = 4 := by decide
      refine ok_eq (fun h2 => ?_) (fun h2 => ?_)
      · refine ok_eq (fun h3 => ?_) (fun h3 => ?_)
        · exact ok_some ⟨hI, by show (-1) ≤ x3.toInt; omega, by show x3.toInt ≤ 6; omega⟩
        · refine ok_ck (by omega) (by omega) ?_
          have : (-2) ≤ (σ.1 22 (Int32.toNatClampNeg x4)).toInt ∧ (σ.1 22 (Int32.toNatClampNeg x4)).toInt ≤ 11 := hI.1 22 (Int32.toNatClampNeg x4)
          refine ok_nmI (fun v5 hv5 he4 => ?_)
          refine ok_eq (fun h5 => ?_) (fun h5 => ?_)
          · have : (40 : Int32).toInt = 40 := by decide
            refine ok_dz (by omega) ?_
            have : ((40 * x1) : Int32).toInt = 40 * (x1 : Int32).toInt := i32_mulL (by omega) (by omega) (by omega)
            have : ((x4 - ((x4 / 40) * 40)) : Int32).toInt = (x4 : Int32).toInt % 40 := i32_rem (by first | decide | omega | rfl) (by omega) (by omega)
            have : (((40 * x1) + (x4 - ((x4 / 40) * 40))) : Int32).toInt = ((40 * x1) : Int32).toInt + ((x4 - ((x4 / 40) * 40)) : Int32).toInt := i32_add (by omega) (by omega)
            refine ok_nmI (fun v7 hv7 he6 => ?_)
            refine ok_ck (by omega) (by omega) ?_
            have := i32_rng (σ.1 21 (Int32.toNatClampNeg x4))
            refine ok_nmI (fun v8 hv8 he7 => ?_)
            refine ok_ck (by omega) (by omega) ?_
            have := i32_rng (σ.1 20 (Int32.toNatClampNeg v7))
            refine ok_nmI (fun v9 hv9 he8 => ?_)
            have := i32_rng v8
            have := i32_rng v9
            refine ok_le (fun h9 => ?_) (fun h9 => ?_)
            · refine ok_ck (by omega) (by omega) ?_
              refine ok_nmI (fun v10 hv10 he10 => ?_)
              have := i32_rng v10
              exact sX12_become_118 (fX12_become_37 n) σ x1 x2 x3 x4 v10 v7 hI (by omega) (by omega) (by omega) (by omega) (by omega) (by omega) (by omega) (by omega) (by omega) (by omega) (fun y0 y1 y2 y3 y4 q0 q1 q2 q3 q4 q5 q6 q7 q8 q9 => ih y0 y1 y2 y3 y4 q0 q1 q2 q3 q4 q5 q6 q7 q8 (by omega))
            · refine ok_ck (by omega) (by omega) ?_
              refine ok_nmI (fun v11 hv11 he11 => ?_)
              have := i32_rng v11
              exact sX12_become_118 (fX12_become_37 n) σ x1 x2 x3 x4 v11 v7 hI (by omega) (by omega) (by omega) (by omega) (by omega) (by omega) (by omega) (by omega) (by omega) (by omega) (fun y0 y1 y2 y3 y4 q0 q1 q2 q3 q4 q5 q6 q7 q8 q9 => ih y0 y1 y2 y3 y4 q0 q1 q2 q3 q4 q5 q6 q7 q8 (by omega))
          · exact sX12_become_136 (fX12_become_37 n) σ x1 x2 x3 x4 hI (by omega) (by omega) (by omega) (by omega) (by omega) (by omega) (by omega) (by omega) (fun y0 y1 y2 y3 y4 q0 q1 q2 q3 q4 q5 q6 q7 q8 q9 => ih y0 y1 y2 y3 y4 q0 q1 q2 q3 q4 q5 q6 q7 q8 (by omega))
      · exact ok_some ⟨hI, by show (-1) ≤ x3.toInt; omega, by show x3.toInt ≤ 6; omega⟩

theorem sX12_become_0 {g : Nat} (σ : S2) (x1 : Int32) (x2 : Int32) (hI : IvM g σ)   : Ok (fun z => IvM g z.2 ∧ (-1) ≤ z.1.toInt ∧ z.1.toInt ≤ 6) (fX12_become_0 σ x1 x2) := by
  have hFU : ((FU : Nat) : Int) = 100000 := rfl
  unfold fX12_become_0
  have := i32_rng x1
  refine ok_bi (sX12_isKeeper σ x1 hI) (fun r12 hr1 => ?_)
  obtain ⟨p2, p3, p4⟩ := hr1
  have p2 : 0 ≤ r12.toInt := p2
  have p3 : r12.toInt ≤ 1 := p3
  have p4 : r12.toInt ≠ 0 → 0 ≤ x1.toInt ∧ x1.toInt < (σ.1 0 3).toInt := p4
  have : 0 ≤ (σ.1 0 3).toInt ∧ (σ.1 0 3).toInt ≤ 12 := hI.1 0 3
  have : (0 : Int32).toInt = 0 := by decide
  refine ok_eq (fun h5 => ?_) (fun h5 => ?_)
  · have : ((-1) : Int32).toInt = (-1) := by decide
    exact ok_some ⟨hI, by show (-1) ≤ ((-1) : Int32).toInt; omega, by show ((-1) : Int32).toInt ≤ 6; omega⟩
  · have := i32_rng x2
    have : (6 : Int32).toInt = 6 := by decide
    refine ok_bi (sX12_in σ x2 0 6 hI (by omega) (by omega) (by omega) (by omega)) (fun r14 hr6 => ?_)
    obtain ⟨p7, p8, p9⟩ := hr6
    have p7 : 0 ≤ r14.toInt := p7
    have p8 : r14.toInt ≤ 1 := p8
    have p9 : r14.toInt ≠ 0 → (0 : Int32).toInt ≤ x2.toInt ∧ x2.toInt ≤ (6 : Int32).toInt := p9
    refine ok_eq (fun h10 => ?_) (fun h10 => ?_)
    · have : ((-1) : Int32).toInt = (-1) := by decide
      exact ok_some ⟨hI, by show (-1) ≤ ((-1) : Int32).toInt; omega, by show ((-1) : Int32).toInt ≤ 6; omega⟩
    · refine ok_ck (by omega) (by omega) ?_
      have : 0 ≤ (σ.1 5 (Int32.toNatClampNeg x1)).toInt ∧ (σ.1 5 (Int32.toNatClampNeg x1)).toInt ≤ 6 := hI.1 5 (Int32.toNatClampNeg x1)
      refine ok_nmI (fun v16 hv16 he11 => ?_)
      refine ok_ck (by omega) (by omega) ?_
      refine ok_nm (fun σ17 hs12 => ?_)
      have hI13 : IvM g σ17 := by rw [hs12]; exact IvM.wI hI rfl (show 0 ≤ (x2 : Int32).toInt by omega) (show (x2 : Int32).toInt ≤ 6 by omega)
      exact sX12_become_37 FU σ17 x1 x2 v16 0 hI13 (by omega) (by omega) (by omega) (by omega) (by omega) (by omega) (by omega) (by omega) (by omega)

theorem sX12_become {g : Nat} (σ : S2) (a1 : Int32) (a2 : Int32) (hI : IvM g σ)   : Ok (fun z => IvM g z.2 ∧ (-1) ≤ z.1.toInt ∧ z.1.toInt ≤ 6) (fX12_become σ a1 a2) := by
  unfold fX12_become
  exact sX12_become_0 σ a1 a2 hI

theorem sX12_strength_0 {g : Nat} (σ : S2) (x1 : Int32) (x2 : Int32) (hI : IvM g σ)   : Ok (fun z => IvM g z.2 ∧ (-1) ≤ z.1.toInt ∧ z.1.toInt ≤ 8) (fX12_strength_0 σ x1 x2) := by
  have hFU : ((FU : Nat) : Int) = 100000 := rfl
  unfold fX12_strength_0
  have := i32_rng x1
  refine ok_bi (sX12_isKeeper σ x1 hI) (fun r1 hr1 => ?_)
  obtain ⟨p2, p3, p4⟩ := hr1
  have p2 : 0 ≤ r1.toInt := p2
  have p3 : r1.toInt ≤ 1 := p3
  have p4 : r1.toInt ≠ 0 → 0 ≤ x1.toInt ∧ x1.toInt < (σ.1 0 3).toInt := p4
  have : 0 ≤ (σ.1 0 3).toInt ∧ (σ.1 0 3).toInt ≤ 12 := hI.1 0 3
  have : (0 : Int32).toInt = 0 := by decide
  refine ok_eq (fun h5 => ?_) (fun h5 => ?_)
  · have : ((-1) : Int32).toInt = (-1) := by decide
    exact ok_some ⟨hI, by show (-1) ≤ ((-1) : Int32).toInt; omega, by show ((-1) : Int32).toInt ≤ 8; omega⟩
  · have := i32_rng x2
    have : (1 : Int32).toInt = 1 := by decide
    have : (8 : Int32).toInt = 8 := by decide
    refine ok_bi (sX12_in σ x2 1 8 hI (by omega) (by omega) (by omega) (by omega)) (fun r3 hr6 => ?_)
    obtain ⟨p7, p8, p9⟩ := hr6
    have p7 : 0 ≤ r3.toInt := p7
    have p8 : r3.toInt ≤ 1 := p8
    have p9 : r3.toInt ≠ 0 → (1 : Int32).toInt ≤ x2.toInt ∧ x2.toInt ≤ (8 : Int32).toInt := p9
    refine ok_eq (fun h10 => ?_) (fun h10 => ?_)
    · have : ((-1) : Int32).toInt = (-1) := by decide
      exact ok_some ⟨hI, by show (-1) ≤ ((-1) : Int32).toInt; omega, by show ((-1) : Int32).toInt ≤ 8; omega⟩
    · refine ok_ck (by omega) (by omega) ?_
      have : 0 ≤ (σ.1 4 (Int32.toNatClampNeg x1)).toInt ∧ (σ.1 4 (Int32.toNatClampNeg x1)).toInt ≤ 8 := hI.1 4 (Int32.toNatClampNeg x1)
      refine ok_nmI (fun v5 hv5 he11 => ?_)
      refine ok_ck (by omega) (by omega) ?_
      refine ok_nm (fun σ6 hs12 => ?_)
      have hI13 : IvM g σ6 := by rw [hs12]; exact IvM.w4 hI (by omega) (show 0 ≤ (x2 : Int32).toInt by omega) (show (x2 : Int32).toInt ≤ 8 by omega)
      exact ok_some ⟨hI13, by show (-1) ≤ v5.toInt; omega, by show v5.toInt ≤ 8; omega⟩

theorem sX12_strength {g : Nat} (σ : S2) (a1 : Int32) (a2 : Int32) (hI : IvM g σ)   : Ok (fun z => IvM g z.2 ∧ (-1) ≤ z.1.toInt ∧ z.1.toInt ≤ 8) (fX12_strength σ a1 a2) := by
  unfold fX12_strength
  exact sX12_strength_0 σ a1 a2 hI

theorem sX12_many_60 {g : Nat} (k5 : S2 → Int32 → Int32 → Int32 → Int32 → Option Int32) (σ : S2) (x1 : Int32) (x2 : Int32) (x4 : Int32) (s0 : Int32) (s1 : Int32) (hI : IvM g σ) (p9000 : 0 ≤ x1.toInt) (p9001 : x1.toInt ≤ 11) (p9002 : 0 ≤ x2.toInt) (p9003 : x2.toInt ≤ 1) (p9004 : 0 ≤ x4.toInt) (p9005 : x4.toInt ≤ 39) (p9006 : 0 ≤ s0.toInt) (p9007 : s0.toInt ≤ 1) (hk5 : ∀ (y0 : S2) (y1 : Int32) (y2 : Int32) (y3 : Int32) (y4 : Int32), IvM g y0 → 0 ≤ y1.toInt → y1.toInt ≤ 11 → 0 ≤ y2.toInt → y2.toInt ≤ 1 → 0 ≤ y4.toInt → y4.toInt ≤ 40 → x4.toInt + 1 ≤ y4.toInt → Ok (fun z => True) (k5 y0 y1 y2 y3 y4)) : Ok (fun z => True) (fX12_many_60 k5 σ x1 x2 x4 s0 s1) := by
  have hFU : ((FU : Nat) : Int) = 100000 := rfl
  unfold fX12_many_60
  have := i32_rng s1
  have := i32_rng (s1 + s0)
  refine ok_nmI (fun v1 hv1 he1 => ?_)
  have : (1 : Int32).toInt = 1 := by decide
  have : ((x4 + 1) : Int32).toInt = (x4 : Int32).toInt + (1 : Int32).toInt := i32_add (by omega) (by omega)
  refine ok_nmI (fun v2 hv2 he2 => ?_)
  have := i32_rng v1
  exact hk5 σ x1 x2 v1 v2 hI (by omega) (by omega) (by omega) (by omega) (by omega) (by omega) (by omega)

theorem sX12_many_5 {g : Nat} : ∀ (n : Nat) (σ : S2) (x1 : Int32) (x2 : Int32) (x3 : Int32) (x4 : Int32), IvM g σ → 0 ≤ x1.toInt → x1.toInt ≤ 11 → 0 ≤ x2.toInt → x2.toInt ≤ 1 → 0 ≤ x4.toInt → x4.toInt ≤ 40 → 40 - x4.toInt < (n : Int) → Ok (fun z => True) (fX12_many_5 n σ x1 x2 x3 x4) := by
  have hFU : ((FU : Nat) : Int) = 100000 := rfl
  intro n
  induction n with
  | zero => intro σ x1 x2 x3 x4 hI p9000 p9001 p9002 p9003 p9004 p9005 hm; exfalso; omega
  | succ n ih =>
    intro σ x1 x2 x3 x4 hI p9000 p9001 p9002 p9003 p9004 p9005 hm
    unfold fX12_many_5
    have : (40 : Int32).toInt = 40 := by decide
    refine ok_le (fun h1 => ?_) (fun h1 => ?_)
    · have := i32_rng x3
      exact ok_some trivial
    · have : (0 : Int32).toInt = 0 := by decide
      refine ok_eq (fun h2 => ?_) (fun h2 => ?_)
      · have : ((40 * x1) : Int32).toInt = 40 * (x1 : Int32).toInt := i32_mulL (by omega) (by omega) (by omega)
        have : (((40 * x1) + x4) : Int32).toInt = ((40 * x1) : Int32).toInt + (x4 : Int32).toInt := i32_add (by omega) (by omega)
        refine ok_ck (by omega) (by omega) ?_
        have := i32_rng (σ.1 21 (Int32.toNatClampNeg ((40 * x1) + x4)))
        refine ok_nmI (fun v3 hv3 he3 => ?_)
        have := i32_rng v3
        refine ok_le (fun h4 => ?_) (fun h4 => ?_)
        · have := i32_rng x3
          exact sX12_many_60 (fX12_many_5 n) σ x1 x2 x4 0 x3 hI (by omega) (by omega) (by omega) (by omega) (by omega) (by omega) (by omega) (by omega) (fun y0 y1 y2 y3 y4 q0 q1 q2 q3 q4 q5 q6 q7 => ih y0 y1 y2 y3 y4 q0 q1 q2 q3 q4 q5 q6 (by omega))
        · have : (1 : Int32).toInt = 1 := by decide
          have := i32_rng x3
          exact sX12_many_60 (fX12_many_5 n) σ x1 x2 x4 1 x3 hI (by omega) (by omega) (by omega) (by omega) (by omega) (by omega) (by omega) (by omega) (fun y0 y1 y2 y3 y4 q0 q1 q2 q3 q4 q5 q6 q7 => ih y0 y1 y2 y3 y4 q0 q1 q2 q3 q4 q5 q6 (by omega))
      · have : ((40 * x1) : Int32).toInt = 40 * (x1 : Int32).toInt := i32_mulL (by omega) (by omega) (by omega)
        have : (((40 * x1) + x4) : Int32).toInt = ((40 * x1) : Int32).toInt + (x4 : Int32).toInt := i32_add (by omega) (by omega)
        refine ok_ck (by omega) (by omega) ?_
        have := i32_rng (σ.1 20 (Int32.toNatClampNeg ((40 * x1) + x4)))
        refine ok_nmI (fun v4 hv4 he5 => ?_)
        have := i32_rng v4
        refine ok_le (fun h6 => ?_) (fun h6 => ?_)
        · have := i32_rng x3
          exact sX12_many_60 (fX12_many_5 n) σ x1 x2 x4 0 x3 hI (by omega) (by omega) (by omega) (by omega) (by omega) (by omega) (by omega) (by omega) (fun y0 y1 y2 y3 y4 q0 q1 q2 q3 q4 q5 q6 q7 => ih y0 y1 y2 y3 y4 q0 q1 q2 q3 q4 q5 q6 (by omega))
        · have : (1 : Int32).toInt = 1 := by decide
          have := i32_rng x3
          exact sX12_many_60 (fX12_many_5 n) σ x1 x2 x4 1 x3 hI (by omega) (by omega) (by omega) (by omega) (by omega) (by omega) (by omega) (by omega) (fun y0 y1 y2 y3 y4 q0 q1 q2 q3 q4 q5 q6 q7 => ih y0 y1 y2 y3 y4 q0 q1 q2 q3 q4 q5 q6 (by omega))

theorem sX12_many_0 {g : Nat} (σ : S2) (x1 : Int32) (x2 : Int32) (hI : IvM g σ) (p9000 : 0 ≤ x1.toInt) (p9001 : x1.toInt ≤ 11) (p9002 : 0 ≤ x2.toInt) (p9003 : x2.toInt ≤ 1)  : Ok (fun z => True) (fX12_many_0 σ x1 x2) := by
  have hFU : ((FU : Nat) : Int) = 100000 := rfl
  unfold fX12_many_0
  have : (0 : Int32).toInt = 0 := by decide
  exact sX12_many_5 FU σ x1 x2 0 0 hI (by omega) (by omega) (by omega) (by omega) (by omega) (by omega) (by omega)

theorem sX12_many {g : Nat} (σ : S2) (a1 : Int32) (a2 : Int32) (hI : IvM g σ) (p9000 : 0 ≤ a1.toInt) (p9001 : a1.toInt ≤ 11) (p9002 : 0 ≤ a2.toInt) (p9003 : a2.toInt ≤ 1)  : Ok (fun z => True) (fX12_many σ a1 a2) := by
  unfold fX12_many
  exact sX12_many_0 σ a1 a2 hI (by assumption) (by assumption) (by assumption) (by assumption)

theorem sX12_ofKeeper_0 {g : Nat} (σ : S2) (x1 : Int32) (x2 : Int32) (hI : IvM g σ)   : Ok (fun z => True) (fX12_ofKeeper_0 σ x1 x2) := by
  have hFU : ((FU : Nat) : Int) = 100000 := rfl
  unfold fX12_ofKeeper_0
  have := i32_rng x1
  refine ok_bi (sX12_isKeeper σ x1 hI) (fun r1 hr1 => ?_)
  obtain ⟨p2, p3, p4⟩ := hr1
  have p2 : 0 ≤ r1.toInt := p2
  have p3 : r1.toInt ≤ 1 := p3
  have p4 : r1.toInt ≠ 0 → 0 ≤ x1.toInt ∧ x1.toInt < (σ.1 0 3).toInt := p4
  have : 0 ≤ (σ.1 0 3).toInt ∧ (σ.1 0 3).toInt ≤ 12 := hI.1 0 3
  have : (0 : Int32).toInt = 0 := by decide
  refine ok_eq (fun h5 => ?_) (fun h5 => ?_)
  · have : ((-2000000000) : Int32).toInt = (-2000000000) := by decide
    exact ok_some trivial
  · have := i32_rng x2
    refine ok_eq (fun h6 => ?_) (fun h6 => ?_)
    · refine ok_ck (by omega) (by omega) ?_
      have : 0 ≤ (σ.1 5 (Int32.toNatClampNeg x1)).toInt ∧ (σ.1 5 (Int32.toNatClampNeg x1)).toInt ≤ 6 := hI.1 5 (Int32.toNatClampNeg x1)
      refine ok_nmI (fun v4 hv4 he7 => ?_)
      exact ok_some trivial
    · have : (1 : Int32).toInt = 1 := by decide
      refine ok_eq (fun h8 => ?_) (fun h8 => ?_)
      · refine ok_ck (by omega) (by omega) ?_
        have : 0 ≤ (σ.1 3 (Int32.toNatClampNeg x1)).toInt ∧ (σ.1 3 (Int32.toNatClampNeg x1)).toInt ≤ 5 := hI.1 3 (Int32.toNatClampNeg x1)
        refine ok_nmI (fun v6 hv6 he9 => ?_)
        exact ok_some trivial
      · have : (2 : Int32).toInt = 2 := by decide
        refine ok_eq (fun h10 => ?_) (fun h10 => ?_)
        · refine ok_ck (by omega) (by omega) ?_
          have : 0 ≤ (σ.1 4 (Int32.toNatClampNeg x1)).toInt ∧ (σ.1 4 (Int32.toNatClampNeg x1)).toInt ≤ 8 := hI.1 4 (Int32.toNatClampNeg x1)
          refine ok_nmI (fun v8 hv8 he11 => ?_)
          exact ok_some trivial
        · have : (3 : Int32).toInt = 3 := by decide
          refine ok_eq (fun h12 => ?_) (fun h12 => ?_)
          · refine ok_bi (sX12_countsNow σ x1 hI (by omega) (by omega) (by omega)) (fun r10 hr13 => ?_)
            obtain ⟨p14, p15, p16⟩ := hr13
            have p14 : 0 ≤ r10.toInt := p14
            have p15 : r10.toInt ≤ 16 := p15
            have p16 : 1 ≤ r10.toInt := p16
            exact ok_some trivial
          · have : (4 : Int32).toInt = 4 := by decide
            refine ok_eq (fun h17 => ?_) (fun h17 => ?_)
            · refine ok_ck (by omega) (by omega) ?_
              have : (-1) ≤ (σ.1 6 (Int32.toNatClampNeg x1)).toInt ∧ (σ.1 6 (Int32.toNatClampNeg x1)).toInt ≤ 9 := hI.1 6 (Int32.toNatClampNeg x1); have : (σ.1 6 (Int32.toNatClampNeg x1)).toInt < (σ.1 0 9).toInt := hI.2.2.2.1 (Int32.toNatClampNeg x1)
              refine ok_nmI (fun v13 hv13 he18 => ?_)
              exact ok_some trivial
            · have : (5 : Int32).toInt = 5 := by decide
              refine ok_eq (fun h19 => ?_) (fun h19 => ?_)
              · refine ok_bi (sX12_many σ x1 1 hI (by omega) (by omega) (by omega) (by omega)) (fun r15 hr20 => ?_)
                have := i32_rng r15
                exact ok_some trivial
              · have : (6 : Int32).toInt = 6 := by decide
                refine ok_eq (fun h21 => ?_) (fun h21 => ?_)
                · refine ok_bi (sX12_many σ x1 0 hI (by omega) (by omega) (by omega) (by omega)) (fun r18 hr22 => ?_)
                  have := i32_rng r18
                  exact ok_some trivial
                · have : (7 : Int32).toInt = 7 := by decide
                  refine ok_eq (fun h23 => ?_) (fun h23 => ?_)
                  · refine ok_ck (by omega) (by omega) ?_
                    have : 0 ≤ (σ.1 7 (Int32.toNatClampNeg x1)).toInt ∧ (σ.1 7 (Int32.toNatClampNeg x1)).toInt ≤ 1 := hI.1 7 (Int32.toNatClampNeg x1)
                    refine ok_nmI (fun v21 hv21 he24 => ?_)
                    refine ok_eq (fun h25 => ?_) (fun h25 => ?_)
                    · exact ok_some trivial
                    · exact ok_some trivial
                  · have : ((-2000000000) : Int32).toInt = (-2000000000) := by decide
                    exact ok_some trivial

theorem sX12_ofKeeper {g : Nat} (σ : S2) (a1 : Int32) (a2 : Int32) (hI : IvM g σ)   : Ok (fun z => True) (fX12_ofKeeper σ a1 a2) := by
  unfold fX12_ofKeeper
  exact sX12_ofKeeper_0 σ a1 a2 hI

theorem sX12_here_0 {g : Nat} (σ : S2) (hI : IvM g σ)   : Ok (fun z => (-1) ≤ z.toInt ∧ z.toInt ≤ 255 ∧ (z.toInt ≠ -1 → (σ.1 0 45).toInt ≤ 79)) (fX12_here_0 σ) := by
  have hFU : ((FU : Nat) : Int) = 100000 := rfl
  unfold fX12_here_0
  have : 0 ≤ (σ.1 0 44).toInt ∧ (σ.1 0 44).toInt ≤ 10 := hI.1 0 44
  refine ok_ck (by omega) (by omega) ?_
  have : 0 ≤ (σ.1 13 (Int32.toNatClampNeg (σ.1 0 44))).toInt ∧ (σ.1 13 (Int32.toNatClampNeg (σ.1 0 44))).toInt ≤ 80 := hI.1 13 (Int32.toNatClampNeg (σ.1 0 44))
  refine ok_nmI (fun v1 hv1 he1 => ?_)
  have : 0 ≤ (σ.1 0 45).toInt ∧ (σ.1 0 45).toInt ≤ 80 := hI.1 0 45
  refine ok_le (fun h2 => ?_) (fun h2 => ?_)
  · have : ((-1) : Int32).toInt = (-1) := by decide
    exact ok_some ⟨by show (-1) ≤ ((-1) : Int32).toInt; omega, by show ((-1) : Int32).toInt ≤ 255; omega, by show ((-1) : Int32).toInt ≠ -1 → (σ.1 0 45).toInt ≤ 79; omega⟩
  · have : (80 : Int32).toInt = 80 := by decide
    have : ((80 * (σ.1 0 44)) : Int32).toInt = 80 * ((σ.1 0 44) : Int32).toInt := i32_mulL (by omega) (by omega) (by omega)
    have : (((80 * (σ.1 0 44)) + (σ.1 0 45)) : Int32).toInt = ((80 * (σ.1 0 44)) : Int32).toInt + ((σ.1 0 45) : Int32).toInt := i32_add (by omega) (by omega)
    refine ok_ck (by omega) (by omega) ?_
    have : 0 ≤ (σ.1 14 (Int32.toNatClampNeg ((80 * (σ.1 0 44)) + (σ.1 0 45)))).toInt ∧ (σ.1 14 (Int32.toNatClampNeg ((80 * (σ.1 0 44)) + (σ.1 0 45)))).toInt ≤ 255 := hI.1 14 (Int32.toNatClampNeg ((80 * (σ.1 0 44)) + (σ.1 0 45)))
    refine ok_nmI (fun v2 hv2 he3 => ?_)
    exact ok_some ⟨by show (-1) ≤ v2.toInt; omega, by show v2.toInt ≤ 255; omega, by show v2.toInt ≠ -1 → (σ.1 0 45).toInt ≤ 79; omega⟩

theorem sX12_here {g : Nat} (σ : S2) (hI : IvM g σ)   : Ok (fun z => (-1) ≤ z.toInt ∧ z.toInt ≤ 255 ∧ (z.toInt ≠ -1 → (σ.1 0 45).toInt ≤ 79)) (fX12_here σ) := by
  unfold fX12_here
  exact sX12_here_0 σ hI

theorem sX12_eats_28 {g : Nat} (t0 : Int) (o0 : Int) (n0 : Int) (b0 : Int) (w0 : S2) (σ : S2) (hI : IvM g σ) (p9000 : (σ.1 0 9).toInt = t0) (p9001 : (σ.1 0 46).toInt = o0) (p9002 : (σ.1 0 3).toInt = n0) (p9003 : b0 ≤ (σ.1 0 45).toInt) (p9004 : KeM w0 σ)  : Ok (fun z => IvM g z.2 ∧ (z.2.1 0 9).toInt = t0 ∧ (z.2.1 0 46).toInt = o0 ∧ (z.2.1 0 3).toInt = n0 ∧ b0 ≤ (z.2.1 0 45).toInt ∧ KeM w0 z.2) (fX12_eats_28 σ) := by
  have hFU : ((FU : Nat) : Int) = 100000 := rfl
  unfold fX12_eats_28
  have : (1 : Int32).toInt = 1 := by decide
  refine ok_nm (fun σ1 hs1 => ?_)
  have hI2 : IvM g σ1 := by rw [hs1]; exact IvM.wI hI rfl (show 0 ≤ (1 : Int32).toInt by omega) (show (1 : Int32).toInt ≤ 1 by omega)
  have : KeM w0 σ1 := by rw [hs1]; exact (show KeM w0 σ by assumption)
  have : (σ1.1 0 9).toInt = (σ.1 0 9).toInt := by rw [hs1]; rfl
  have : (σ1.1 0 45).toInt = (σ.1 0 45).toInt := by rw [hs1]; rfl
  have : (σ1.1 0 46).toInt = (σ.1 0 46).toInt := by rw [hs1]; rfl
  have : (σ1.1 0 47).toInt = (1 : Int32).toInt := by rw [hs1]; rfl
  have : (σ1.1 0 3).toInt = (σ.1 0 3).toInt := by rw [hs1]; rfl
  exact ok_some ⟨hI2, by show (σ1.1 0 9).toInt = t0; omega, by show (σ1.1 0 46).toInt = o0; omega, by show (σ1.1 0 3).toInt = n0; omega, by show b0 ≤ (σ1.1 0 45).toInt; omega, by show KeM w0 σ1; assumption⟩

theorem sX12_eats_0 {g : Nat} (t0 : Int) (o0 : Int) (n0 : Int) (b0 : Int) (w0 : S2) (σ : S2) (x1 : Int32) (hI : IvM g σ) (p9000 : (-1) ≤ x1.toInt) (p9001 : x1.toInt ≤ 255) (p9002 : (σ.1 0 9).toInt = t0) (p9003 : (σ.1 0 46).toInt = o0) (p9004 : (σ.1 0 3).toInt = n0) (p9005 : b0 ≤ (σ.1 0 45).toInt) (p9006 : KeM w0 σ) (p9007 : (x1.toInt ≠ -1 ∨ (σ.1 0 47).toInt ≠ 0))  : Ok (fun z => IvM g z.2 ∧ (z.2.1 0 9).toInt = t0 ∧ (z.2.1 0 46).toInt = o0 ∧ (z.2.1 0 3).toInt = n0 ∧ b0 ≤ (z.2.1 0 45).toInt ∧ KeM w0 z.2) (fX12_eats_0 σ x1) := by
  have hFU : ((FU : Nat) : Int) = 100000 := rfl
  unfold fX12_eats_0
  have : 0 ≤ (σ.1 0 47).toInt ∧ (σ.1 0 47).toInt ≤ 1 := hI.1 0 47
  have : (0 : Int32).toInt = 0 := by decide
  refine ok_eq (fun h1 => ?_) (fun h1 => ?_)
  · refine ok_bi (sX12_here σ hI) (fun r2 hr2 => ?_)
    obtain ⟨p3, p4, p5⟩ := hr2
    have p3 : (-1) ≤ r2.toInt := p3
    have p4 : r2.toInt ≤ 255 := p4
    have p5 : r2.toInt ≠ -1 → (σ.1 0 45).toInt ≤ 79 := p5
    refine ok_eq (fun h6 => ?_) (fun h6 => ?_)
    · have : 0 ≤ (σ.1 0 45).toInt ∧ (σ.1 0 45).toInt ≤ 80 := hI.1 0 45
      have : (1 : Int32).toInt = 1 := by decide
      have : (((σ.1 0 45) + 1) : Int32).toInt = ((σ.1 0 45) : Int32).toInt + (1 : Int32).toInt := i32_add (by omega) (by omega)
      refine ok_nm (fun σ4 hs7 => ?_)
      have hI8 : IvM g σ4 := by rw [hs7]; exact IvM.wI hI rfl (show 0 ≤ (((σ.1 0 45) + 1) : Int32).toInt by omega) (show (((σ.1 0 45) + 1) : Int32).toInt ≤ 80 by omega)
      have : KeM w0 σ4 := by rw [hs7]; exact (show KeM w0 σ by assumption)
      have : (σ4.1 0 9).toInt = (σ.1 0 9).toInt := by rw [hs7]; rfl
      have : (σ4.1 0 45).toInt = (((σ.1 0 45) + 1) : Int32).toInt := by rw [hs7]; rfl
      have : (σ4.1 0 46).toInt = (σ.1 0 46).toInt := by rw [hs7]; rfl
      have : (σ4.1 0 47).toInt = (σ.1 0 47).toInt := by rw [hs7]; rfl
      have : (σ4.1 0 3).toInt = (σ.1 0 3).toInt := by rw [hs7]; rfl
      exact ok_some ⟨hI8, by show (σ4.1 0 9).toInt = t0; omega, by show (σ4.1 0 46).toInt = o0; omega, by show (σ4.1 0 3).toInt = n0; omega, by show b0 ≤ (σ4.1 0 45).toInt; omega, by show KeM w0 σ4; assumption⟩
    · have : 0 ≤ (σ.1 0 9).toInt ∧ (σ.1 0 9).toInt ≤ 10 := hI.1 0 9
      have : 0 ≤ (σ.1 0 46).toInt ∧ (σ.1 0 46).toInt ≤ 4 := hI.1 0 46
      have : 0 ≤ (σ.1 0 3).toInt ∧ (σ.1 0 3).toInt ≤ 12 := hI.1 0 3
      have : 0 ≤ (σ.1 0 45).toInt ∧ (σ.1 0 45).toInt ≤ 80 := hI.1 0 45
      exact sX12_eats_28 t0 o0 n0 b0 w0 σ hI (by omega) (by omega) (by omega) (by omega) (by first | assumption | exact KeM.rf _)
  · have : 0 ≤ (σ.1 0 9).toInt ∧ (σ.1 0 9).toInt ≤ 10 := hI.1 0 9
    have : 0 ≤ (σ.1 0 46).toInt ∧ (σ.1 0 46).toInt ≤ 4 := hI.1 0 46
    have : 0 ≤ (σ.1 0 3).toInt ∧ (σ.1 0 3).toInt ≤ 12 := hI.1 0 3
    have : 0 ≤ (σ.1 0 45).toInt ∧ (σ.1 0 45).toInt ≤ 80 := hI.1 0 45
    exact sX12_eats_28 t0 o0 n0 b0 w0 σ hI (by omega) (by omega) (by omega) (by omega) (by first | assumption | exact KeM.rf _)

theorem sX12_eats {g : Nat} (t0 : Int) (o0 : Int) (n0 : Int) (b0 : Int) (w0 : S2) (σ : S2) (a1 : Int32) (hI : IvM g σ) (p9000 : (-1) ≤ a1.toInt) (p9001 : a1.toInt ≤ 255) (p9002 : (σ.1 0 9).toInt = t0) (p9003 : (σ.1 0 46).toInt = o0) (p9004 : (σ.1 0 3).toInt = n0) (p9005 : b0 ≤ (σ.1 0 45).toInt) (p9006 : KeM w0 σ) (p9007 : (a1.toInt ≠ -1 ∨ (σ.1 0 47).toInt ≠ 0))  : Ok (fun z => IvM g z.2 ∧ (z.2.1 0 9).toInt = t0 ∧ (z.2.1 0 46).toInt = o0 ∧ (z.2.1 0 3).toInt = n0 ∧ b0 ≤ (z.2.1 0 45).toInt ∧ KeM w0 z.2) (fX12_eats σ a1) := by
  unfold fX12_eats
  exact sX12_eats_0 t0 o0 n0 b0 w0 σ a1 hI (by assumption) (by assumption) (by assumption) (by assumption) (by assumption) (by assumption) (by assumption) (by assumption)

theorem sX12_sum_73 {g : Nat} (t0 : Int) (o0 : Int) (n0 : Int) (b0 : Int) (w0 : S2) (r : Int) (qX12_sum : S2 → Option (Int32 × S2)) (qX12_product : S2 → Option (Int32 × S2)) (qX12_one : S2 → Option (Int32 × S2)) (k5 : S2 → Int32 → Option (Int32 × S2)) (hqX12_sum : ∀ (t0 : Int) (o0 : Int) (n0 : Int) (b0 : Int) (w0 : S2) (σ : S2), IvM g σ → (σ.1 0 9).toInt = t0 → (σ.1 0 46).toInt = o0 → (σ.1 0 3).toInt = n0 → b0 ≤ (σ.1 0 45).toInt → KeM w0 σ → 0 ≤ (r - 1) → 14 - 3 * o0 ≤ (r - 1) → Ok (fun z => IvM g z.2 ∧ (z.2.1 0 9).toInt = t0 ∧ (z.2.1 0 46).toInt = o0 ∧ (z.2.1 0 3).toInt = n0 ∧ b0 ≤ (z.2.1 0 45).toInt ∧ KeM w0 z.2) (qX12_sum σ)) (hqX12_product : ∀ (t0 : Int) (o0 : Int) (n0 : Int) (b0 : Int) (w0 : S2) (σ : S2), IvM g σ → (σ.1 0 9).toInt = t0 → (σ.1 0 46).toInt = o0 → (σ.1 0 3).toInt = n0 → b0 ≤ (σ.1 0 45).toInt → KeM w0 σ → 0 ≤ (r - 1) → 13 - 3 * o0 ≤ (r - 1) → Ok (fun z => IvM g z.2 ∧ (z.2.1 0 9).toInt = t0 ∧ (z.2.1 0 46).toInt = o0 ∧ (z.2.1 0 3).toInt = n0 ∧ b0 ≤ (z.2.1 0 45).toInt ∧ KeM w0 z.2) (qX12_product σ)) (hqX12_one : ∀ (t0 : Int) (o0 : Int) (n0 : Int) (b0 : Int) (w0 : S2) (σ : S2), IvM g σ → (σ.1 0 9).toInt = t0 → (σ.1 0 46).toInt = o0 → (σ.1 0 3).toInt = n0 → b0 ≤ (σ.1 0 45).toInt → KeM w0 σ → 0 ≤ (r - 1) → 12 - 3 * o0 ≤ (r - 1) → Ok (fun z => IvM g z.2 ∧ (z.2.1 0 9).toInt = t0 ∧ (z.2.1 0 46).toInt = o0 ∧ (z.2.1 0 3).toInt = n0 ∧ b0 ≤ (z.2.1 0 45).toInt ∧ KeM w0 z.2) (qX12_one σ)) (σ : S2) (s0 : Int32) (hI : IvM g σ) (p9000 : (σ.1 0 9).toInt = t0) (p9001 : (σ.1 0 46).toInt = o0) (p9002 : (σ.1 0 3).toInt = n0) (p9003 : b0 ≤ (σ.1 0 45).toInt) (p9004 : KeM w0 σ) (p9005 : 0 ≤ r) (p9006 : 14 - 3 * o0 ≤ r) (hk5 : ∀ (y0 : S2) (y1 : Int32), IvM g y0 → (y0.1 0 9).toInt = t0 → (y0.1 0 46).toInt = o0 → (y0.1 0 3).toInt = n0 → b0 ≤ (y0.1 0 45).toInt → KeM w0 y0 → 0 ≤ r → 14 - 3 * o0 ≤ r → (σ.1 0 45).toInt - 1 + 1 ≤ (y0.1 0 45).toInt → Ok (fun z => IvM g z.2 ∧ (z.2.1 0 9).toInt = t0 ∧ (z.2.1 0 46).toInt = o0 ∧ (z.2.1 0 3).toInt = n0 ∧ b0 ≤ (z.2.1 0 45).toInt ∧ KeM w0 z.2) (k5 y0 y1)) : Ok (fun z => IvM g z.2 ∧ (z.2.1 0 9).toInt = t0 ∧ (z.2.1 0 46).toInt = o0 ∧ (z.2.1 0 3).toInt = n0 ∧ b0 ≤ (z.2.1 0 45).toInt ∧ KeM w0 z.2) (fX12_sum_73 qX12_sum qX12_product qX12_one k5 σ s0) := by
  have hFU : ((FU : Nat) : Int) = 100000 := rfl
  unfold fX12_sum_73
  have := i32_rng s0
  have : 0 ≤ (σ.1 0 9).toInt ∧ (σ.1 0 9).toInt ≤ 10 := hI.1 0 9
  have : 0 ≤ (σ.1 0 46).toInt ∧ (σ.1 0 46).toInt ≤ 4 := hI.1 0 46
  have : 0 ≤ (σ.1 0 3).toInt ∧ (σ.1 0 3).toInt ≤ 12 := hI.1 0 3
  have : 0 ≤ (σ.1 0 45).toInt ∧ (σ.1 0 45).toInt ≤ 80 := hI.1 0 45
  exact hk5 σ s0 hI (by omega) (by omega) (by omega) (by omega) (by first | assumption | exact KeM.rf _) (by omega) (by omega) (by omega)

theorem sX12_sum_44 {g : Nat} (t0 : Int) (o0 : Int) (n0 : Int) (b0 : Int) (w0 : S2) (r : Int) (qX12_sum : S2 → Option (Int32 × S2)) (qX12_product : S2 → Option (Int32 × S2)) (qX12_one : S2 → Option (Int32 × S2)) (k5 : S2 → Int32 → Option (Int32 × S2)) (hqX12_sum : ∀ (t0 : Int) (o0 : Int) (n0 : Int) (b0 : Int) (w0 : S2) (σ : S2), IvM g σ → (σ.1 0 9).toInt = t0 → (σ.1 0 46).toInt = o0 → (σ.1 0 3).toInt = n0 → b0 ≤ (σ.1 0 45).toInt → KeM w0 σ → 0 ≤ (r - 1) → 14 - 3 * o0 ≤ (r - 1) → Ok (fun z => IvM g z.2 ∧ (z.2.1 0 9).toInt = t0 ∧ (z.2.1 0 46).toInt = o0 ∧ (z.2.1 0 3).toInt = n0 ∧ b0 ≤ (z.2.1 0 45).toInt ∧ KeM w0 z.2) (qX12_sum σ)) (hqX12_product : ∀ (t0 : Int) (o0 : Int) (n0 : Int) (b0 : Int) (w0 : S2) (σ : S2), IvM g σ → (σ.1 0 9).toInt = t0 → (σ.1 0 46).toInt = o0 → (σ.1 0 3).toInt = n0 → b0 ≤ (σ.1 0 45).toInt → KeM w0 σ → 0 ≤ (r - 1) → 13 - 3 * o0 ≤ (r - 1) → Ok (fun z => IvM g z.2 ∧ (z.2.1 0 9).toInt = t0 ∧ (z.2.1 0 46).toInt = o0 ∧ (z.2.1 0 3).toInt = n0 ∧ b0 ≤ (z.2.1 0 45).toInt ∧ KeM w0 z.2) (qX12_product σ)) (hqX12_one : ∀ (t0 : Int) (o0 : Int) (n0 : Int) (b0 : Int) (w0 : S2) (σ : S2), IvM g σ → (σ.1 0 9).toInt = t0 → (σ.1 0 46).toInt = o0 → (σ.1 0 3).toInt = n0 → b0 ≤ (σ.1 0 45).toInt → KeM w0 σ → 0 ≤ (r - 1) → 12 - 3 * o0 ≤ (r - 1) → Ok (fun z => IvM g z.2 ∧ (z.2.1 0 9).toInt = t0 ∧ (z.2.1 0 46).toInt = o0 ∧ (z.2.1 0 3).toInt = n0 ∧ b0 ≤ (z.2.1 0 45).toInt ∧ KeM w0 z.2) (qX12_one σ)) (σ : S2) (x1 : Int32) (s0 : Int32) (hI : IvM g σ) (p9000 : 0 ≤ s0.toInt) (p9001 : s0.toInt ≤ 1) (p9002 : (σ.1 0 9).toInt = t0) (p9003 : (σ.1 0 46).toInt = o0) (p9004 : (σ.1 0 3).toInt = n0) (p9005 : b0 ≤ (σ.1 0 45).toInt) (p9006 : KeM w0 σ) (p9007 : (σ.1 0 45).toInt ≤ 79) (p9008 : 0 ≤ r) (p9009 : 14 - 3 * o0 ≤ r) (hk5 : ∀ (y0 : S2) (y1 : Int32), IvM g y0 → (y0.1 0 9).toInt = t0 → (y0.1 0 46).toInt = o0 → (y0.1 0 3).toInt = n0 → b0 ≤ (y0.1 0 45).toInt → KeM w0 y0 → 0 ≤ r → 14 - 3 * o0 ≤ r → (σ.1 0 45).toInt + 1 ≤ (y0.1 0 45).toInt → Ok (fun z => IvM g z.2 ∧ (z.2.1 0 9).toInt = t0 ∧ (z.2.1 0 46).toInt = o0 ∧ (z.2.1 0 3).toInt = n0 ∧ b0 ≤ (z.2.1 0 45).toInt ∧ KeM w0 z.2) (k5 y0 y1)) : Ok (fun z => IvM g z.2 ∧ (z.2.1 0 9).toInt = t0 ∧ (z.2.1 0 46).toInt = o0 ∧ (z.2.1 0 3).toInt = n0 ∧ b0 ≤ (z.2.1 0 45).toInt ∧ KeM w0 z.2) (fX12_sum_44 qX12_sum qX12_product qX12_one k5 σ x1 s0) := by
  have hFU : ((FU : Nat) : Int) = 100000 := rfl
  unfold fX12_sum_44
  have : 0 ≤ (σ.1 0 45).toInt ∧ (σ.1 0 45).toInt ≤ 80 := hI.1 0 45
  have : (1 : Int32).toInt = 1 := by decide
  have : (((σ.1 0 45) + 1) : Int32).toInt = ((σ.1 0 45) : Int32).toInt + (1 : Int32).toInt := i32_add (by omega) (by omega)
  refine ok_nm (fun σ1 hs1 => ?_)
  have hI2 : IvM g σ1 := by rw [hs1]; exact IvM.wI hI rfl (show 0 ≤ (((σ.1 0 45) + 1) : Int32).toInt by omega) (show (((σ.1 0 45) + 1) : Int32).toInt ≤ 80 by omega)
  have : KeM w0 σ1 := by rw [hs1]; exact (show KeM w0 σ by assumption)
  have : (σ1.1 0 9).toInt = (σ.1 0 9).toInt := by rw [hs1]; rfl
  have : (σ1.1 0 45).toInt = (((σ.1 0 45) + 1) : Int32).toInt := by rw [hs1]; rfl
  have : (σ1.1 0 46).toInt = (σ.1 0 46).toInt := by rw [hs1]; rfl
  have : (σ1.1 0 47).toInt = (σ.1 0 47).toInt := by rw [hs1]; rfl
  have : (σ1.1 0 3).toInt = (σ.1 0 3).toInt := by rw [hs1]; rfl
  have : 0 ≤ (σ1.1 0 9).toInt ∧ (σ1.1 0 9).toInt ≤ 10 := hI2.1 0 9
  have : 0 ≤ (σ1.1 0 46).toInt ∧ (σ1.1 0 46).toInt ≤ 4 := hI2.1 0 46
  have : 0 ≤ (σ1.1 0 3).toInt ∧ (σ1.1 0 3).toInt ≤ 12 := hI2.1 0 3
  have : 0 ≤ (σ1.1 0 45).toInt ∧ (σ1.1 0 45).toInt ≤ 80 := hI2.1 0 45
  refine ok_bs (hqX12_product (σ1.1 0 9).toInt (σ1.1 0 46).toInt (σ1.1 0 3).toInt (σ1.1 0 45).toInt w0 σ1 hI2 (by omega) (by omega) (by omega) (by omega) (by first | assumption | exact KeM.rf _) (by omega) (by omega)) (fun r2 σ3 hr3 => ?_)
  obtain ⟨p4, p5, p6, p7, p8, p9⟩ := hr3
  have p4 : IvM g σ3 := p4
  have p5 : (σ3.1 0 9).toInt = (σ1.1 0 9).toInt := p5
  have p6 : (σ3.1 0 46).toInt = (σ1.1 0 46).toInt := p6
  have p7 : (σ3.1 0 3).toInt = (σ1.1 0 3).toInt := p7
  have p8 : (σ1.1 0 45).toInt ≤ (σ3.1 0 45).toInt := p8
  have p9 : KeM w0 σ3 := p9
  have : (0 : Int32).toInt = 0 := by decide
  refine ok_eq (fun h10 => ?_) (fun h10 => ?_)
  · have := i32_rng x1
    have := i32_rng r2
    have := i32_rng (x1 - r2)
    have : 0 ≤ (σ3.1 0 9).toInt ∧ (σ3.1 0 9).toInt ≤ 10 := p4.1 0 9
    have : 0 ≤ (σ3.1 0 46).toInt ∧ (σ3.1 0 46).toInt ≤ 4 := p4.1 0 46
    have : 0 ≤ (σ3.1 0 3).toInt ∧ (σ3.1 0 3).toInt ≤ 12 := p4.1 0 3
    have : 0 ≤ (σ3.1 0 45).toInt ∧ (σ3.1 0 45).toInt ≤ 80 := p4.1 0 45
    exact sX12_sum_73 t0 o0 n0 b0 w0 r qX12_sum qX12_product qX12_one k5 hqX12_sum hqX12_product hqX12_one σ3 (x1 - r2) p4 (by omega) (by omega) (by omega) (by omega) (by first | assumption | exact KeM.rf _) (by omega) (by omega) (fun y0 y1 q0 q1 q2 q3 q4 q5 q6 q7 q8 => hk5 y0 y1 q0 q1 q2 q3 q4 q5 q6 q7 (by omega))
  · have := i32_rng x1
    have := i32_rng r2
    have := i32_rng (x1 + r2)
    have : 0 ≤ (σ3.1 0 9).toInt ∧ (σ3.1 0 9).toInt ≤ 10 := p4.1 0 9
    have : 0 ≤ (σ3.1 0 46).toInt ∧ (σ3.1 0 46).toInt ≤ 4 := p4.1 0 46
    have : 0 ≤ (σ3.1 0 3).toInt ∧ (σ3.1 0 3).toInt ≤ 12 := p4.1 0 3
    have : 0 ≤ (σ3.1 0 45).toInt ∧ (σ3.1 0 45).toInt ≤ 80 := p4.1 0 45
    exact sX12_sum_73 t0 o0 n0 b0 w0 r qX12_sum qX12_product qX12_one k5 hqX12_sum hqX12_product hqX12_one σ3 (x1 + r2) p4 (by omega) (by omega) (by omega) (by omega) (by first | assumption | exact KeM.rf _) (by omega) (by omega) (fun y0 y1 q0 q1 q2 q3 q4 q5 q6 q7 q8 => hk5 y0 y1 q0 q1 q2 q3 q4 q5 q6 q7 (by omega))

theorem sX12_sum_30 {g : Nat} (t0 : Int) (o0 : Int) (n0 : Int) (b0 : Int) (w0 : S2) (r : Int) (qX12_sum : S2 → Option (Int32 × S2)) (qX12_product : S2 → Option (Int32 × S2)) (qX12_one : S2 → Option (Int32 × S2)) (k5 : S2 → Int32 → Option (Int32 × S2)) (hqX12_sum : ∀ (t0 : Int) (o0 : Int) (n0 : Int) (b0 : Int) (w0 : S2) (σ : S2), IvM g σ → (σ.1 0 9).toInt = t0 → (σ.1 0 46).toInt = o0 → (σ.1 0 3).toInt = n0 → b0 ≤ (σ.1 0 45).toInt → KeM w0 σ → 0 ≤ (r - 1) → 14 - 3 * o0 ≤ (r - 1) → Ok (fun z => IvM g z.2 ∧ (z.2.1 0 9).toInt = t0 ∧ (z.2.1 0 46).toInt = o0 ∧ (z.2.1 0 3).toInt = n0 ∧ b0 ≤ (z.2.1 0 45).toInt ∧ KeM w0 z.2) (qX12_sum σ)) (hqX12_product : ∀ (t0 : Int) (o0 : Int) (n0 : Int) (b0 : Int) (w0 : S2) (σ : S2), IvM g σ → (σ.1 0 9).toInt = t0 → (σ.1 0 46).toInt = o0 → (σ.1 0 3).toInt = n0 → b0 ≤ (σ.1 0 45).toInt → KeM w0 σ → 0 ≤ (r - 1) → 13 - 3 * o0 ≤ (r - 1) → Ok (fun z => IvM g z.2 ∧ (z.2.1 0 9).toInt = t0 ∧ (z.2.1 0 46).toInt = o0 ∧ (z.2.1 0 3).toInt = n0 ∧ b0 ≤ (z.2.1 0 45).toInt ∧ KeM w0 z.2) (qX12_product σ)) (hqX12_one : ∀ (t0 : Int) (o0 : Int) (n0 : Int) (b0 : Int) (w0 : S2) (σ : S2), IvM g σ → (σ.1 0 9).toInt = t0 → (σ.1 0 46).toInt = o0 → (σ.1 0 3).toInt = n0 → b0 ≤ (σ.1 0 45).toInt → KeM w0 σ → 0 ≤ (r - 1) → 12 - 3 * o0 ≤ (r - 1) → Ok (fun z => IvM g z.2 ∧ (z.2.1 0 9).toInt = t0 ∧ (z.2.1 0 46).toInt = o0 ∧ (z.2.1 0 3).toInt = n0 ∧ b0 ≤ (z.2.1 0 45).toInt ∧ KeM w0 z.2) (qX12_one σ)) (σ : S2) (x1 : Int32) (hI : IvM g σ) (p9000 : (σ.1 0 9).toInt = t0) (p9001 : (σ.1 0 46).toInt = o0) (p9002 : (σ.1 0 3).toInt = n0) (p9003 : b0 ≤ (σ.1 0 45).toInt) (p9004 : KeM w0 σ) (p9005 : (σ.1 0 45).toInt ≤ 79) (p9006 : 0 ≤ r) (p9007 : 14 - 3 * o0 ≤ r) (hk5 : ∀ (y0 : S2) (y1 : Int32), IvM g y0 → (y0.1 0 9).toInt = t0 → (y0.1 0 46).toInt = o0 → (y0.1 0 3).toInt = n0 → b0 ≤ (y0.1 0 45).toInt → KeM w0 y0 → 0 ≤ r → 14 - 3 * o0 ≤ r → (σ.1 0 45).toInt + 1 ≤ (y0.1 0 45).toInt → Ok (fun z => IvM g z.2 ∧ (z.2.1 0 9).toInt = t0 ∧ (z.2.1 0 46).toInt = o0 ∧ (z.2.1 0 3).toInt = n0 ∧ b0 ≤ (z.2.1 0 45).toInt ∧ KeM w0 z.2) (k5 y0 y1)) : Ok (fun z => IvM g z.2 ∧ (z.2.1 0 9).toInt = t0 ∧ (z.2.1 0 46).toInt = o0 ∧ (z.2.1 0 3).toInt = n0 ∧ b0 ≤ (z.2.1 0 45).toInt ∧ KeM w0 z.2) (fX12_sum_30 qX12_sum qX12_product qX12_one k5 σ x1) := by
  have hFU : ((FU : Nat) : Int) = 100000 := rfl
  unfold fX12_sum_30
  refine ok_bi (sX12_here σ hI) (fun r5 hr1 => ?_)
  obtain ⟨p2, p3, p4⟩ := hr1
  have p2 : (-1) ≤ r5.toInt := p2
  have p3 : r5.toInt ≤ 255 := p3
  have p4 : r5.toInt ≠ -1 → (σ.1 0 45).toInt ≤ 79 := p4
  have : (43 : Int32).toInt = 43 := by decide
  refine ok_eq (fun h5 => ?_) (fun h5 => ?_)
  · have := i32_rng x1
    have : (1 : Int32).toInt = 1 := by decide
    have : 0 ≤ (σ.1 0 9).toInt ∧ (σ.1 0 9).toInt ≤ 10 := hI.1 0 9
    have : 0 ≤ (σ.1 0 46).toInt ∧ (σ.1 0 46).toInt ≤ 4 := hI.1 0 46
    have : 0 ≤ (σ.1 0 3).toInt ∧ (σ.1 0 3).toInt ≤ 12 := hI.1 0 3
    have : 0 ≤ (σ.1 0 45).toInt ∧ (σ.1 0 45).toInt ≤ 80 := hI.1 0 45
    exact sX12_sum_44 t0 o0 n0 b0 w0 r qX12_sum qX12_product qX12_one k5 hqX12_sum hqX12_product hqX12_one σ x1 1 hI (by omega) (by omega) (by omega) (by omega) (by omega) (by omega) (by first | assumption | exact KeM.rf _) (by omega) (by omega) (by omega) (fun y0 y1 q0 q1 q2 q3 q4 q5 q6 q7 q8 => hk5 y0 y1 q0 q1 q2 q3 q4 q5 q6 q7 (by omega))
  · have := i32_rng x1
    have : (0 : Int32).toInt = 0 := by decide
    have : 0 ≤ (σ.1 0 9).toInt ∧ (σ.1 0 9).toInt ≤ 10 := hI.1 0 9
    have : 0 ≤ (σ.1 0 46).toInt ∧ (σ.1 0 46).toInt ≤ 4 := hI.1 0 46
    have : 0 ≤ (σ.1 0 3).toInt ∧ (σ.1 0 3).toInt ≤ 12 := hI.1 0 3
    have : 0 ≤ (σ.1 0 45).toInt ∧ (σ.1 0 45).toInt ≤ 80 := hI.1 0 45
    exact sX12_sum_44 t0 o0 n0 b0 w0 r qX12_sum qX12_product qX12_one k5 hqX12_sum hqX12_product hqX12_one σ x1 0 hI (by omega) (by omega) (by omega) (by omega) (by omega) (by omega) (by first | assumption | exact KeM.rf _) (by omega) (by omega) (by omega) (fun y0 y1 q0 q1 q2 q3 q4 q5 q6 q7 q8 => hk5 y0 y1 q0 q1 q2 q3 q4 q5 q6 q7 (by omega))

theorem sX12_sum_5 {g : Nat} (t0 : Int) (o0 : Int) (n0 : Int) (b0 : Int) (w0 : S2) (r : Int) (qX12_sum : S2 → Option (Int32 × S2)) (qX12_product : S2 → Option (Int32 × S2)) (qX12_one : S2 → Option (Int32 × S2)) (hqX12_sum : ∀ (t0 : Int) (o0 : Int) (n0 : Int) (b0 : Int) (w0 : S2) (σ : S2), IvM g σ → (σ.1 0 9).toInt = t0 → (σ.1 0 46).toInt = o0 → (σ.1 0 3).toInt = n0 → b0 ≤ (σ.1 0 45).toInt → KeM w0 σ → 0 ≤ (r - 1) → 14 - 3 * o0 ≤ (r - 1) → Ok (fun z => IvM g z.2 ∧ (z.2.1 0 9).toInt = t0 ∧ (z.2.1 0 46).toInt = o0 ∧ (z.2.1 0 3).toInt = n0 ∧ b0 ≤ (z.2.1 0 45).toInt ∧ KeM w0 z.2) (qX12_sum σ)) (hqX12_product : ∀ (t0 : Int) (o0 : Int) (n0 : Int) (b0 : Int) (w0 : S2) (σ : S2), IvM g σ → (σ.1 0 9).toInt = t0 → (σ.1 0 46).toInt = o0 → (σ.1 0 3).toInt = n0 → b0 ≤ (σ.1 0 45).toInt → KeM w0 σ → 0 ≤ (r - 1) → 13 - 3 * o0 ≤ (r - 1) → Ok (fun z => IvM g z.2 ∧ (z.2.1 0 9).toInt = t0 ∧ (z.2.1 0 46).toInt = o0 ∧ (z.2.1 0 3).toInt = n0 ∧ b0 ≤ (z.2.1 0 45).toInt ∧ KeM w0 z.2) (qX12_product σ)) (hqX12_one : ∀ (t0 : Int) (o0 : Int) (n0 : Int) (b0 : Int) (w0 : S2) (σ : S2), IvM g σ → (σ.1 0 9).toInt = t0 → (σ.1 0 46).toInt = o0 → (σ.1 0 3).toInt = n0 → b0 ≤ (σ.1 0 45).toInt → KeM w0 σ → 0 ≤ (r - 1) → 12 - 3 * o0 ≤ (r - 1) → Ok (fun z => IvM g z.2 ∧ (z.2.1 0 9).toInt = t0 ∧ (z.2.1 0 46).toInt = o0 ∧ (z.2.1 0 3).toInt = n0 ∧ b0 ≤ (z.2.1 0 45).toInt ∧ KeM w0 z.2) (qX12_one σ)) : ∀ (n : Nat) (σ : S2) (x1 : Int32), IvM g σ → (σ.1 0 9).toInt = t0 → (σ.1 0 46).toInt = o0 → (σ.1 0 3).toInt = n0 → b0 ≤ (σ.1 0 45).toInt → KeM w0 σ → 0 ≤ r → 14 - 3 * o0 ≤ r → 80 - ((σ.1 0 45).toInt) < (n : Int) → Ok (fun z => IvM g z.2 ∧ (z.2.1 0 9).toInt = t0 ∧ (z.2.1 0 46).toInt = o0 ∧ (z.2.1 0 3).toInt = n0 ∧ b0 ≤ (z.2.1 0 45).toInt ∧ KeM w0 z.2) (fX12_sum_5 qX12_sum qX12_product qX12_one n σ x1) := by
  have hFU : ((FU : Nat) : Int) = 100000 := rfl
  intro n
  induction n with
  | zero => intro σ x1 hI p9000 p9001 p9002 p9003 p9004 p9005 p9006 hm; have : 0 ≤ (σ.1 0 45).toInt ∧ (σ.1 0 45).toInt ≤ 80 := hI.1 0 45; exfalso; omega
  | succ n ih =>
    intro σ x1 hI p9000 p9001 p9002 p9003 p9004 p9005 p9006 hm
    unfold fX12_sum_5
    have : 0 ≤ (σ.1 0 47).toInt ∧ (σ.1 0 47).toInt ≤ 1 := hI.1 0 47
    have : (0 : Int32).toInt = 0 := by decide
    refine ok_eq (fun h1 => ?_) (fun h1 => ?_)
    · refine ok_bi (sX12_here σ hI) (fun r7 hr2 => ?_)
      obtain ⟨p3, p4, p5⟩ := hr2
      have p3 : (-1) ≤ r7.toInt := p3
      have p4 : r7.toInt ≤ 255 := p4
      have p5 : r7.toInt ≠ -1 → (σ.1 0 45).toInt ≤ 79 := p5
      have : (43 : Int32).toInt = 43 := by decide
      refine ok_eq (fun h6 => ?_) (fun h6 => ?_)
      · have := i32_rng x1
        have : 0 ≤ (σ.1 0 9).toInt ∧ (σ.1 0 9).toInt ≤ 10 := hI.1 0 9
        have : 0 ≤ (σ.1 0 46).toInt ∧ (σ.1 0 46).toInt ≤ 4 := hI.1 0 46
        have : 0 ≤ (σ.1 0 3).toInt ∧ (σ.1 0 3).toInt ≤ 12 := hI.1 0 3
        have : 0 ≤ (σ.1 0 45).toInt ∧ (σ.1 0 45).toInt ≤ 80 := hI.1 0 45
        exact sX12_sum_30 t0 o0 n0 b0 w0 r qX12_sum qX12_product qX12_one (fX12_sum_5 qX12_sum qX12_product qX12_one n) hqX12_sum hqX12_product hqX12_one σ x1 hI (by omega) (by omega) (by omega) (by omega) (by first | assumption | exact KeM.rf _) (by omega) (by omega) (by omega) (fun y0 y1 q0 q1 q2 q3 q4 q5 q6 q7 q8 => ih y0 y1 q0 q1 q2 q3 q4 q5 q6 q7 (by omega))
      · refine ok_bi (sX12_here σ hI) (fun r9 hr7 => ?_)
        obtain ⟨p8, p9, p10⟩ := hr7
        have p8 : (-1) ≤ r9.toInt := p8
        have p9 : r9.toInt ≤ 255 := p9
        have p10 : r9.toInt ≠ -1 → (σ.1 0 45).toInt ≤ 79 := p10
        have : (45 : Int32).toInt = 45 := by decide
        refine ok_eq (fun h11 => ?_) (fun h11 => ?_)
        · have := i32_rng x1
          have : 0 ≤ (σ.1 0 9).toInt ∧ (σ.1 0 9).toInt ≤ 10 := hI.1 0 9
          have : 0 ≤ (σ.1 0 46).toInt ∧ (σ.1 0 46).toInt ≤ 4 := hI.1 0 46
          have : 0 ≤ (σ.1 0 3).toInt ∧ (σ.1 0 3).toInt ≤ 12 := hI.1 0 3
          have : 0 ≤ (σ.1 0 45).toInt ∧ (σ.1 0 45).toInt ≤ 80 := hI.1 0 45
          exact sX12_sum_30 t0 o0 n0 b0 w0 r qX12_sum qX12_product qX12_one (fX12_sum_5 qX12_sum qX12_product qX12_one n) hqX12_sum hqX12_product hqX12_one σ x1 hI (by omega) (by omega) (by omega) (by omega) (by first | assumption | exact KeM.rf _) (by omega) (by omega) (by omega) (fun y0 y1 q0 q1 q2 q3 q4 q5 q6 q7 q8 => ih y0 y1 q0 q1 q2 q3 q4 q5 q6 q7 (by omega))
        · have := i32_rng x1
          exact ok_some ⟨hI, by show (σ.1 0 9).toInt = t0; omega, by show (σ.1 0 46).toInt = o0; omega, by show (σ.1 0 3).toInt = n0; omega, by show b0 ≤ (σ.1 0 45).toInt; omega, by show KeM w0 σ; assumption⟩
    · have := i32_rng x1
      exact ok_some ⟨hI, by show (σ.1 0 9).toInt = t0; omega, by show (σ.1 0 46).toInt = o0; omega, by show (σ.1 0 3).toInt = n0; omega, by show b0 ≤ (σ.1 0 45).toInt; omega, by show KeM w0 σ; assumption⟩

theorem sX12_sum_0 {g : Nat} (t0 : Int) (o0 : Int) (n0 : Int) (b0 : Int) (w0 : S2) (r : Int) (qX12_sum : S2 → Option (Int32 × S2)) (qX12_product : S2 → Option (Int32 × S2)) (qX12_one : S2 → Option (Int32 × S2)) (hqX12_sum : ∀ (t0 : Int) (o0 : Int) (n0 : Int) (b0 : Int) (w0 : S2) (σ : S2), IvM g σ → (σ.1 0 9).toInt = t0 → (σ.1 0 46).toInt = o0 → (σ.1 0 3).toInt = n0 → b0 ≤ (σ.1 0 45).toInt → KeM w0 σ → 0 ≤ (r - 1) → 14 - 3 * o0 ≤ (r - 1) → Ok (fun z => IvM g z.2 ∧ (z.2.1 0 9).toInt = t0 ∧ (z.2.1 0 46).toInt = o0 ∧ (z.2.1 0 3).toInt = n0 ∧ b0 ≤ (z.2.1 0 45).toInt ∧ KeM w0 z.2) (qX12_sum σ)) (hqX12_product : ∀ (t0 : Int) (o0 : Int) (n0 : Int) (b0 : Int) (w0 : S2) (σ : S2), IvM g σ → (σ.1 0 9).toInt = t0 → (σ.1 0 46).toInt = o0 → (σ.1 0 3).toInt = n0 → b0 ≤ (σ.1 0 45).toInt → KeM w0 σ → 0 ≤ (r - 1) → 13 - 3 * o0 ≤ (r - 1) → Ok (fun z => IvM g z.2 ∧ (z.2.1 0 9).toInt = t0 ∧ (z.2.1 0 46).toInt = o0 ∧ (z.2.1 0 3).toInt = n0 ∧ b0 ≤ (z.2.1 0 45).toInt ∧ KeM w0 z.2) (qX12_product σ)) (hqX12_one : ∀ (t0 : Int) (o0 : Int) (n0 : Int) (b0 : Int) (w0 : S2) (σ : S2), IvM g σ → (σ.1 0 9).toInt = t0 → (σ.1 0 46).toInt = o0 → (σ.1 0 3).toInt = n0 → b0 ≤ (σ.1 0 45).toInt → KeM w0 σ → 0 ≤ (r - 1) → 12 - 3 * o0 ≤ (r - 1) → Ok (fun z => IvM g z.2 ∧ (z.2.1 0 9).toInt = t0 ∧ (z.2.1 0 46).toInt = o0 ∧ (z.2.1 0 3).toInt = n0 ∧ b0 ≤ (z.2.1 0 45).toInt ∧ KeM w0 z.2) (qX12_one σ)) (σ : S2) (hI : IvM g σ) (p9000 : (σ.1 0 9).toInt = t0) (p9001 : (σ.1 0 46).toInt = o0) (p9002 : (σ.1 0 3).toInt = n0) (p9003 : b0 ≤ (σ.1 0 45).toInt) (p9004 : KeM w0 σ) (p9005 : 0 ≤ r) (p9006 : 14 - 3 * o0 ≤ r)  : Ok (fun z => IvM g z.2 ∧ (z.2.1 0 9).toInt = t0 ∧ (z.2.1 0 46).toInt = o0 ∧ (z.2.1 0 3).toInt = n0 ∧ b0 ≤ (z.2.1 0 45).toInt ∧ KeM w0 z.2) (fX12_sum_0 qX12_sum qX12_product qX12_one σ) := by
  have hFU : ((FU : Nat) : Int) = 100000 := rfl
  unfold fX12_sum_0
  have : 0 ≤ (σ.1 0 9).toInt ∧ (σ.1 0 9).toInt ≤ 10 := hI.1 0 9
  have : 0 ≤ (σ.1 0 46).toInt ∧ (σ.1 0 46).toInt ≤ 4 := hI.1 0 46
  have : 0 ≤ (σ.1 0 3).toInt ∧ (σ.1 0 3).toInt ≤ 12 := hI.1 0 3
  have : 0 ≤ (σ.1 0 45).toInt ∧ (σ.1 0 45).toInt ≤ 80 := hI.1 0 45
  refine ok_bs (hqX12_product (σ.1 0 9).toInt (σ.1 0 46).toInt (σ.1 0 3).toInt (σ.1 0 45).toInt w0 σ hI (by omega) (by omega) (by omega) (by omega) (by first | assumption | exact KeM.rf _) (by omega) (by omega)) (fun r11 σ12 hr1 => ?_)
  obtain ⟨p2, p3, p4, p5, p6, p7⟩ := hr1
  have p2 : IvM g σ12 := p2
  have p3 : (σ12.1 0 9).toInt = (σ.1 0 9).toInt := p3
  have p4 : (σ12.1 0 46).toInt = (σ.1 0 46).toInt := p4
  have p5 : (σ12.1 0 3).toInt = (σ.1 0 3).toInt := p5
  have p6 : (σ.1 0 45).toInt ≤ (σ12.1 0 45).toInt := p6
  have p7 : KeM w0 σ12 := p7
  have := i32_rng r11
  have : 0 ≤ (σ12.1 0 9).toInt ∧ (σ12.1 0 9).toInt ≤ 10 := p2.1 0 9
  have : 0 ≤ (σ12.1 0 46).toInt ∧ (σ12.1 0 46).toInt ≤ 4 := p2.1 0 46
  have : 0 ≤ (σ12.1 0 3).toInt ∧ (σ12.1 0 3).toInt ≤ 12 := p2.1 0 3
  have : 0 ≤ (σ12.1 0 45).toInt ∧ (σ12.1 0 45).toInt ≤ 80 := p2.1 0 45
  exact sX12_sum_5 t0 o0 n0 b0 w0 r qX12_sum qX12_product qX12_one hqX12_sum hqX12_product hqX12_one FU σ12 r11 p2 (by omega) (by omega) (by omega) (by omega) (by first | assumption | exact KeM.rf _) (by omega) (by omega) (by omega)

theorem sX12_product_114 {g : Nat} (t0 : Int) (o0 : Int) (n0 : Int) (b0 : Int) (w0 : S2) (r : Int) (qX12_sum : S2 → Option (Int32 × S2)) (qX12_product : S2 → Option (Int32 × S2)) (qX12_one : S2 → Option (Int32 × S2)) (k5 : S2 → Int32 → Option (Int32 × S2)) (hqX12_sum : ∀ (t0 : Int) (o0 : Int) (n0 : Int) (b0 : Int) (w0 : S2) (σ : S2), IvM g σ → (σ.1 0 9).toInt = t0 → (σ.1 0 46).toInt = o0 → (σ.1 0 3).toInt = n0 → b0 ≤ (σ.1 0 45).toInt → KeM w0 σ → 0 ≤ (r - 1) → 14 - 3 * o0 ≤ (r - 1) → Ok (fun z => IvM g z.2 ∧ (z.2.1 0 9).toInt = t0 ∧ (z.2.1 0 46).toInt = o0 ∧ (z.2.1 0 3).toInt = n0 ∧ b0 ≤ (z.2.1 0 45).toInt ∧ KeM w0 z.2) (qX12_sum σ)) (hqX12_product : ∀ (t0 : Int) (o0 : Int) (n0 : Int) (b0 : Int) (w0 : S2) (σ : S2), IvM g σ → (σ.1 0 9).toInt = t0 → (σ.1 0 46).toInt = o0 → (σ.1 0 3).toInt = n0 → b0 ≤ (σ.1 0 45).toInt → KeM w0 σ → 0 ≤ (r - 1) → 13 - 3 * o0 ≤ (r - 1) → Ok (fun z => IvM g z.2 ∧ (z.2.1 0 9).toInt = t0 ∧ (z.2.1 0 46).toInt = o0 ∧ (z.2.1 0 3).toInt = n0 ∧ b0 ≤ (z.2.1 0 45).toInt ∧ KeM w0 z.2) (qX12_product σ)) (hqX12_one : ∀ (t0 : Int) (o0 : Int) (n0 : Int) (b0 : Int) (w0 : S2) (σ : S2), IvM g σ → (σ.1 0 9).toInt = t0 → (σ.1 0 46).toInt = o0 → (σ.1 0 3).toInt = n0 → b0 ≤ (σ.1 0 45).toInt → KeM w0 σ → 0 ≤ (r - 1) → 12 - 3 * o0 ≤ (r - 1) → Ok (fun z => IvM g z.2 ∧ (z.2.1 0 9).toInt = t0 ∧ (z.2.1 0 46).toInt = o0 ∧ (z.2.1 0 3).toInt = n0 ∧ b0 ≤ (z.2.1 0 45).toInt ∧ KeM w0 z.2) (qX12_one σ)) (σ : S2) (s0 : Int32) (hI : IvM g σ) (p9000 : (σ.1 0 9).toInt = t0) (p9001 : (σ.1 0 46).toInt = o0) (p9002 : (σ.1 0 3).toInt = n0) (p9003 : b0 ≤ (σ.1 0 45).toInt) (p9004 : KeM w0 σ) (p9005 : 0 ≤ r) (p9006 : 13 - 3 * o0 ≤ r) (hk5 : ∀ (y0 : S2) (y1 : Int32), IvM g y0 → (y0.1 0 9).toInt = t0 → (y0.1 0 46).toInt = o0 → (y0.1 0 3).toInt = n0 → b0 ≤ (y0.1 0 45).toInt → KeM w0 y0 → 0 ≤ r → 13 - 3 * o0 ≤ r → (σ.1 0 45).toInt - 1 + 1 ≤ (y0.1 0 45).toInt → Ok (fun z => IvM g z.2 ∧ (z.2.1 0 9).toInt = t0 ∧ (z.2.1 0 46).toInt = o0 ∧ (z.2.1 0 3).toInt = n0 ∧ b0 ≤ (z.2.1 0 45).toInt ∧ KeM w0 z.2) (k5 y0 y1)) : Ok (fun z => IvM g z.2 ∧ (z.2.1 0 9).toInt = t0 ∧ (z.2.1 0 46).toInt = o0 ∧ (z.2.1 0 3).toInt = n0 ∧ b0 ≤ (z.2.1 0 45).toInt ∧ KeM w0 z.2) (fX12_product_114 qX12_sum qX12_product qX12_one k5 σ s0) := by
  have hFU : ((FU : Nat) : Int) = 100000 := rfl
  unfold fX12_product_114
  have := i32_rng s0
  have : 0 ≤ (σ.1 0 9).toInt ∧ (σ.1 0 9).toInt ≤ 10 := hI.1 0 9
  have : 0 ≤ (σ.1 0 46).toInt ∧ (σ.1 0 46).toInt ≤ 4 := hI.1 0 46
  have : 0 ≤ (σ.1 0 3).toInt ∧ (σ.1 0 3).toInt ≤ 12 := hI.1 0 3
  have : 0 ≤ (σ.1 0 45).toInt ∧ (σ.1 0 45).toInt ≤ 80 := hI.1 0 45
  exact hk5 σ s0 hI (by omega) (by omega) (by omega) (by omega) (by first | assumption | exact KeM.rf _) (by omega) (by omega) (by omega)

theorem sX12_product_39 {g : Nat} (t0 : Int) (o0 : Int) (n0 : Int) (b0 : Int) (w0 : S2) (r : Int) (qX12_sum : S2 → Option (Int32 × S2)) (qX12_product : S2 → Option (Int32 × S2)) (qX12_one : S2 → Option (Int32 × S2)) (k5 : S2 → Int32 → Option (Int32 × S2)) (hqX12_sum : ∀ (t0 : Int) (o0 : Int) (n0 : Int) (b0 : Int) (w0 : S2) (σ : S2), IvM g σ → (σ.1 0 9).toInt = t0 → (σ.1 0 46).toInt = o0 → (σ.1 0 3).toInt = n0 → b0 ≤ (σ.1 0 45).toInt → KeM w0 σ → 0 ≤ (r - 1) → 14 - 3 * o0 ≤ (r - 1) → Ok (fun z => IvM g z.2 ∧ (z.2.1 0 9).toInt = t0 ∧ (z.2.1 0 46).toInt = o0 ∧ (z.2.1 0 3).toInt = n0 ∧ b0 ≤ (z.2.1 0 45).toInt ∧ KeM w0 z.2) (qX12_sum σ)) (hqX12_product : ∀ (t0 : Int) (o0 : Int) (n0 : Int) (b0 : Int) (w0 : S2) (σ : S2), IvM g σ → (σ.1 0 9).toInt = t0 → (σ.1 0 46).toInt = o0 → (σ.1 0 3).toInt = n0 → b0 ≤ (σ.1 0 45).toInt → KeM w0 σ → 0 ≤ (r - 1) → 13 - 3 * o0 ≤ (r - 1) → Ok (fun z => IvM g z.2 ∧ (z.2.1 0 9).toInt = t0 ∧ (z.2.1 0 46).toInt = o0 ∧ (z.2.1 0 3).toInt = n0 ∧ b0 ≤ (z.2.1 0 45).toInt ∧ KeM w0 z.2) (qX12_product σ)) (hqX12_one : ∀ (t0 : Int) (o0 : Int) (n0 : Int) (b0 : Int) (w0 : S2) (σ : S2), IvM g σ → (σ.1 0 9).toInt = t0 → (σ.1 0 46).toInt = o0 → (σ.1 0 3).toInt = n0 → b0 ≤ (σ.1 0 45).toInt → KeM w0 σ → 0 ≤ (r - 1) → 12 - 3 * o0 ≤ (r - 1) → Ok (fun z => IvM g z.2 ∧ (z.2.1 0 9).toInt = t0 ∧ (z.2.1 0 46).toInt = o0 ∧ (z.2.1 0 3).toInt = n0 ∧ b0 ≤ (z.2.1 0 45).toInt ∧ KeM w0 z.2) (qX12_one σ)) (σ : S2) (x1 : Int32) (hI : IvM g σ) (p9000 : (σ.1 0 9).toInt = t0) (p9001 : (σ.1 0 46).toInt = o0) (p9002 : (σ.1 0 3).toInt = n0) (p9003 : b0 ≤ (σ.1 0 45).toInt) (p9004 : KeM w0 σ) (p9005 : (σ.1 0 45).toInt ≤ 79) (p9006 : 0 ≤ r) (p9007 : 13 - 3 * o0 ≤ r) (hk5 : ∀ (y0 : S2) (y1 : Int32), IvM g y0 → (y0.1 0 9).toInt = t0 → (y0.1 0 46).toInt = o0 → (y0.1 0 3).toInt = n0 → b0 ≤ (y0.1 0 45).toInt → KeM w0 y0 → 0 ≤ r → 13 - 3 * o0 ≤ r → (σ.1 0 45).toInt + 1 ≤ (y0.1 0 45).toInt → Ok (fun z => IvM g z.2 ∧ (z.2.1 0 9).toInt = t0 ∧ (z.2.1 0 46).toInt = o0 ∧ (z.2.1 0 3).toInt = n0 ∧ b0 ≤ (z.2.1 0 45).toInt ∧ KeM w0 z.2) (k5 y0 y1)) : Ok (fun z => IvM g z.2 ∧ (z.2.1 0 9).toInt = t0 ∧ (z.2.1 0 46).toInt = o0 ∧ (z.2.1 0 3).toInt = n0 ∧ b0 ≤ (z.2.1 0 45).toInt ∧ KeM w0 z.2) (fX12_product_39 qX12_sum qX12_product qX12_one k5 σ x1) := by
  have hFU : ((FU : Nat) : Int) = 100000 := rfl
  unfold fX12_product_39
  refine ok_bi (sX12_here σ hI) (fun r1 hr1 => ?_)
  obtain ⟨p2, p3, p4⟩ := hr1
  have p2 : (-1) ≤ r1.toInt := p2
  have p3 : r1.toInt ≤ 255 := p3
  have p4 : r1.toInt ≠ -1 → (σ.1 0 45).toInt ≤ 79 := p4
  have : 0 ≤ (σ.1 0 45).toInt ∧ (σ.1 0 45).toInt ≤ 80 := hI.1 0 45
  have : (1 : Int32).toInt = 1 := by decide
  have : (((σ.1 0 45) + 1) : Int32).toInt = ((σ.1 0 45) : Int32).toInt + (1 : Int32).toInt := i32_add (by omega) (by omega)
  refine ok_nm (fun σ3 hs5 => ?_)
  have hI6 : IvM g σ3 := by rw [hs5]; exact IvM.wI hI rfl (show 0 ≤ (((σ.1 0 45) + 1) : Int32).toInt by omega) (show (((σ.1 0 45) + 1) : Int32).toInt ≤ 80 by omega)
  have : KeM w0 σ3 := by rw [hs5]; exact (show KeM w0 σ by assumption)
  have : (σ3.1 0 9).toInt = (σ.1 0 9).toInt := by rw [hs5]; rfl
  have : (σ3.1 0 45).toInt = (((σ.1 0 45) + 1) : Int32).toInt := by rw [hs5]; rfl
  have : (σ3.1 0 46).toInt = (σ.1 0 46).toInt := by rw [hs5]; rfl
  have : (σ3.1 0 47).toInt = (σ.1 0 47).toInt := by rw [hs5]; rfl
  have : (σ3.1 0 3).toInt = (σ.1 0 3).toInt := by rw [hs5]; rfl
  have : 0 ≤ (σ3.1 0 9).toInt ∧ (σ3.1 0 9).toInt ≤ 10 := hI6.1 0 9
  have : 0 ≤ (σ3.1 0 46).toInt ∧ (σ3.1 0 46).toInt ≤ 4 := hI6.1 0 46
  have : 0 ≤ (σ3.1 0 3).toInt ∧ (σ3.1 0 3).toInt ≤ 12 := hI6.1 0 3
  have : 0 ≤ (σ3.1 0 45).toInt ∧ (σ3.1 0 45).toInt ≤ 80 := hI6.1 0 45
  refine ok_bs (hqX12_one (σ3.1 0 9).toInt (σ3.1 0 46).toInt (σ3.1 0 3).toInt (σ3.1 0 45).toInt w0 σ3 hI6 (by omega) (by omega) (by omega) (by omega) (by first | assumption | exact KeM.rf _) (by omega) (by omega)) (fun r4 σ5 hr7 => ?_)
  obtain ⟨p8, p9, p10, p11, p12, p13⟩ := hr7
  have p8 : IvM g σ5 := p8
  have p9 : (σ5.1 0 9).toInt = (σ3.1 0 9).toInt := p9
  have p10 : (σ5.1 0 46).toInt = (σ3.1 0 46).toInt := p10
  have p11 : (σ5.1 0 3).toInt = (σ3.1 0 3).toInt := p11
  have p12 : (σ3.1 0 45).toInt ≤ (σ5.1 0 45).toInt := p12
  have p13 : KeM w0 σ5 := p13
  have : (42 : Int32).toInt = 42 := by decide
  refine ok_eq (fun h14 => ?_) (fun h14 => ?_)
  · have := i32_rng x1
    have := i32_rng r4
    have := i32_rng (x1 * r4)
    have : 0 ≤ (σ5.1 0 9).toInt ∧ (σ5.1 0 9).toInt ≤ 10 := p8.1 0 9
    have : 0 ≤ (σ5.1 0 46).toInt ∧ (σ5.1 0 46).toInt ≤ 4 := p8.1 0 46
    have : 0 ≤ (σ5.1 0 3).toInt ∧ (σ5.1 0 3).toInt ≤ 12 := p8.1 0 3
    have : 0 ≤ (σ5.1 0 45).toInt ∧ (σ5.1 0 45).toInt ≤ 80 := p8.1 0 45
    exact sX12_product_114 t0 o0 n0 b0 w0 r qX12_sum qX12_product qX12_one k5 hqX12_sum hqX12_product hqX12_one σ5 (x1 * r4) p8 (by omega) (by omega) (by omega) (by omega) (by first | assumption | exact KeM.rf _) (by omega) (by omega) (fun y0 y1 q0 q1 q2 q3 q4 q5 q6 q7 q8 => hk5 y0 y1 q0 q1 q2 q3 q4 q5 q6 q7 (by omega))
  · have := i32_rng r4
    have : (0 : Int32).toInt = 0 := by decide
    refine ok_eq (fun h15 => ?_) (fun h15 => ?_)
    · have : 0 ≤ (σ5.1 0 9).toInt ∧ (σ5.1 0 9).toInt ≤ 10 := p8.1 0 9
      have : 0 ≤ (σ5.1 0 46).toInt ∧ (σ5.1 0 46).toInt ≤ 4 := p8.1 0 46
      have : 0 ≤ (σ5.1 0 3).toInt ∧ (σ5.1 0 3).toInt ≤ 12 := p8.1 0 3
      have : 0 ≤ (σ5.1 0 45).toInt ∧ (σ5.1 0 45).toInt ≤ 80 := p8.1 0 45
      exact sX12_product_114 t0 o0 n0 b0 w0 r qX12_sum qX12_product qX12_one k5 hqX12_sum hqX12_product hqX12_one σ5 0 p8 (by omega) (by omega) (by omega) (by omega) (by first | assumption | exact KeM.rf _) (by omega) (by omega) (fun y0 y1 q0 q1 q2 q3 q4 q5 q6 q7 q8 => hk5 y0 y1 q0 q1 q2 q3 q4 q5 q6 q7 (by omega))
    · have : ((-1) : Int32).toInt = (-1) := by decide
      refine ok_eq (fun h16 => ?_) (fun h16 => ?_)
      · have : (47 : Int32).toInt = 47 := by decide
        refine ok_eq (fun h17 => ?_) (fun h17 => ?_)
        · have := i32_rng x1
          have := i32_rng (-x1)
          have : 0 ≤ (σ5.1 0 9).toInt ∧ (σ5.1 0 9).toInt ≤ 10 := p8.1 0 9
          have : 0 ≤ (σ5.1 0 46).toInt ∧ (σ5.1 0 46).toInt ≤ 4 := p8.1 0 46
          have : 0 ≤ (σ5.1 0 3).toInt ∧ (σ5.1 0 3).toInt ≤ 12 := p8.1 0 3
          have : 0 ≤ (σ5.1 0 45).toInt ∧ (σ5.1 0 45).toInt ≤ 80 := p8.1 0 45
          exact sX12_product_114 t0 o0 n0 b0 w0 r qX12_sum qX12_product qX12_one k5 hqX12_sum hqX12_product hqX12_one σ5 (-x1) p8 (by omega) (by omega) (by omega) (by omega) (by first | assumption | exact KeM.rf _) (by omega) (by omega) (fun y0 y1 q0 q1 q2 q3 q4 q5 q6 q7 q8 => hk5 y0 y1 q0 q1 q2 q3 q4 q5 q6 q7 (by omega))
        · have : 0 ≤ (σ5.1 0 9).toInt ∧ (σ5.1 0 9).toInt ≤ 10 := p8.1 0 9
          have : 0 ≤ (σ5.1 0 46).toInt ∧ (σ5.1 0 46).toInt ≤ 4 := p8.1 0 46
          have : 0 ≤ (σ5.1 0 3).toInt ∧ (σ5.1 0 3).toInt ≤ 12 := p8.1 0 3
          have : 0 ≤ (σ5.1 0 45).toInt ∧ (σ5.1 0 45).toInt ≤ 80 := p8.1 0 45
          exact sX12_product_114 t0 o0 n0 b0 w0 r qX12_sum qX12_product qX12_one k5 hqX12_sum hqX12_product hqX12_one σ5 0 p8 (by omega) (by omega) (by omega) (by omega) (by first | assumption | exact KeM.rf _) (by omega) (by omega) (fun y0 y1 q0 q1 q2 q3 q4 q5 q6 q7 q8 => hk5 y0 y1 q0 q1 q2 q3 q4 q5 q6 q7 (by omega))
      · have : (47 : Int32).toInt = 47 := by decide
        refine ok_eq (fun h18 => ?_) (fun h18 => ?_)
        · refine ok_dz (by omega) ?_
          have := i32_rng x1
          have := i32_rng (x1 / r4)
          have : 0 ≤ (σ5.1 0 9).toInt ∧ (σ5.1 0 9).toInt ≤ 10 := p8.1 0 9
          have : 0 ≤ (σ5.1 0 46).toInt ∧ (σ5.1 0 46).toInt ≤ 4 := p8.1 0 46
          have : 0 ≤ (σ5.1 0 3).toInt ∧ (σ5.1 0 3).toInt ≤ 12 := p8.1 0 3
          have : 0 ≤ (σ5.1 0 45).toInt ∧ (σ5.1 0 45).toInt ≤ 80 := p8.1 0 45
          exact sX12_product_114 t0 o0 n0 b0 w0 r qX12_sum qX12_product qX12_one k5 hqX12_sum hqX12_product hqX12_one σ5 (x1 / r4) p8 (by omega) (by omega) (by omega) (by omega) (by first | assumption | exact KeM.rf _) (by omega) (by omega) (fun y0 y1 q0 q1 q2 q3 q4 q5 q6 q7 q8 => hk5 y0 y1 q0 q1 q2 q3 q4 q5 q6 q7 (by omega))
        · refine ok_dz (by omega) ?_
          have := i32_rng x1
          have := i32_rng (x1 - ((x1 / r4) * r4))
          have : 0 ≤ (σ5.1 0 9).toInt ∧ (σ5.1 0 9).toInt ≤ 10 := p8.1 0 9
          have : 0 ≤ (σ5.1 0 46).toInt ∧ (σ5.1 0 46).toInt ≤ 4 := p8.1 0 46
          have : 0 ≤ (σ5.1 0 3).toInt ∧ (σ5.1 0 3).toInt ≤ 12 := p8.1 0 3
          have : 0 ≤ (σ5.1 0 45).toInt ∧ (σ5.1 0 45).toInt ≤ 80 := p8.1 0 45
          exact sX12_product_114 t0 o0 n0 b0 w0 r qX12_sum qX12_product qX12_one k5 hqX12_sum hqX12_product hqX12_one σ5 (x1 - ((x1 / r4) * r4)) p8 (by omega) (by omega) (by omega) (by omega) (by first | assumption | exact KeM.rf _) (by omega) (by omega) (fun y0 y1 q0 q1 q2 q3 q4 q5 q6 q7 q8 => hk5 y0 y1 q0 q1 q2 q3 q4 q5 q6 q7 (by omega))

theorem sX12_product_5 {g : Nat} (t0 : Int) (o0 : Int) (n0 : Int) (b0 : Int) (w0 : S2) (r : Int) (qX12_sum : S2 → Option (Int32 × S2)) (qX12_product : S2 → Option (Int32 × S2)) (qX12_one : S2 → Option (Int32 × S2)) (hqX12_sum : ∀ (t0 : Int) (o0 : Int) (n0 : Int) (b0 : Int) (w0 : S2) (σ : S2), IvM g σ → (σ.1 0 9).toInt = t0 → (σ.1 0 46).toInt = o0 → (σ.1 0 3).toInt = n0 → b0 ≤ (σ.1 0 45).toInt → KeM w0 σ → 0 ≤ (r - 1) → 14 - 3 * o0 ≤ (r - 1) → Ok (fun z => IvM g z.2 ∧ (z.2.1 0 9).toInt = t0 ∧ (z.2.1 0 46).toInt = o0 ∧ (z.2.1 0 3).toInt = n0 ∧ b0 ≤ (z.2.1 0 45).toInt ∧ KeM w0 z.2) (qX12_sum σ)) (hqX12_product : ∀ (t0 : Int) (o0 : Int) (n0 : Int) (b0 : Int) (w0 : S2) (σ : S2), IvM g σ → (σ.1 0 9).toInt = t0 → (σ.1 0 46).toInt = o0 → (σ.1 0 3).toInt = n0 → b0 ≤ (σ.1 0 45).toInt → KeM w0 σ → 0 ≤ (r - 1) → 13 - 3 * o0 ≤ (r - 1) → Ok (fun z => IvM g z.2 ∧ (z.2.1 0 9).toInt = t0 ∧ (z.2.1 0 46).toInt = o0 ∧ (z.2.1 0 3).toInt = n0 ∧ b0 ≤ (z.2.1 0 45).toInt ∧ KeM w0 z.2) (qX12_product σ)) (hqX12_one : ∀ (t0 : Int) (o0 : Int) (n0 : Int) (b0 : Int) (w0 : S2) (σ : S2), IvM g σ → (σ.1 0 9).toInt = t0 → (σ.1 0 46).toInt = o0 → (σ.1 0 3).toInt = n0 → b0 ≤ (σ.1 0 45).toInt → KeM w0 σ → 0 ≤ (r - 1) → 12 - 3 * o0 ≤ (r - 1) → Ok (fun z => IvM g z.2 ∧ (z.2.1 0 9).toInt = t0 ∧ (z.2.1 0 46).toInt = o0 ∧ (z.2.1 0 3).toInt = n0 ∧ b0 ≤ (z.2.1 0 45).toInt ∧ KeM w0 z.2) (qX12_one σ)) : ∀ (n : Nat) (σ : S2) (x1 : Int32), IvM g σ → (σ.1 0 9).toInt = t0 → (σ.1 0 46).toInt = o0 → (σ.1 0 3).toInt = n0 → b0 ≤ (σ.1 0 45).toInt → KeM w0 σ → 0 ≤ r → 13 - 3 * o0 ≤ r → 80 - ((σ.1 0 45).toInt) < (n : Int) → Ok (fun z => IvM g z.2 ∧ (z.2.1 0 9).toInt = t0 ∧ (z.2.1 0 46).toInt = o0 ∧ (z.2.1 0 3).toInt = n0 ∧ b0 ≤ (z.2.1 0 45).toInt ∧ KeM w0 z.2) (fX12_product_5 qX12_sum qX12_product qX12_one n σ x1) := by
  have hFU : ((FU : Nat) : Int) = 100000 := rfl
  intro n
  induction n with
  | zero => intro σ x1 hI p9000 p9001 p9002 p9003 p9004 p9005 p9006 hm; have : 0 ≤ (σ.1 0 45).toInt ∧ (σ.1 0 45).toInt ≤ 80 := hI.1 0 45; exfalso; omega
  | succ n ih =>
    intro σ x1 hI p9000 p9001 p9002 p9003 p9004 p9005 p9006 hm
    unfold fX12_product_5
    have : 0 ≤ (σ.1 0 47).toInt ∧ (σ.1 0 47).toInt ≤ 1 := hI.1 0 47
    have : (0 : Int32).toInt = 0 := by decide
    refine ok_eq (fun h1 => ?_) (fun h1 => ?_)
    · refine ok_bi (sX12_here σ hI) (fun r9 hr2 => ?_)
      obtain ⟨p3, p4, p5⟩ := hr2
      have p3 : (-1) ≤ r9.toInt := p3
      have p4 : r9.toInt ≤ 255 := p4
      have p5 : r9.toInt ≠ -1 → (σ.1 0 45).toInt ≤ 79 := p5
      have : (42 : Int32).toInt = 42 := by decide
      refine ok_eq (fun h6 => ?_) (fun h6 => ?_)
      · have := i32_rng x1
        have : 0 ≤ (σ.1 0 9).toInt ∧ (σ.1 0 9).toInt ≤ 10 := hI.1 0 9
        have : 0 ≤ (σ.1 0 46).toInt ∧ (σ.1 0 46).toInt ≤ 4 := hI.1 0 46
        have : 0 ≤ (σ.1 0 3).toInt ∧ (σ.1 0 3).toInt ≤ 12 := hI.1 0 3
        have : 0 ≤ (σ.1 0 45).toInt ∧ (σ.1 0 45).toInt ≤ 80 := hI.1 0 45
        exact sX12_product_39 t0 o0 n0 b0 w0 r qX12_sum qX12_product qX12_one (fX12_product_5 qX12_sum qX12_product qX12_one n) hqX12_sum hqX12_product hqX12_one σ x1 hI (by omega) (by omega) (by omega) (by omega) (by first | assumption | exact KeM.rf _) (by omega) (by omega) (by omega) (fun y0 y1 q0 q1 q2 q3 q4 q5 q6 q7 q8 => ih y0 y1 q0 q1 q2 q3 q4 q5 q6 q7 (by omega))
      · refine ok_bi (sX12_here σ hI) (fun r11 hr7 => ?_)
        obtain ⟨p8, p9, p10⟩ := hr7
        have p8 : (-1) ≤ r11.toInt := p8
        have p9 : r11.toInt ≤ 255 := p9
        have p10 : r11.toInt ≠ -1 → (σ.1 0 45).toInt ≤ 79 := p10
        have : (47 : Int32).toInt = 47 := by decide
        refine ok_eq (fun h11 => ?_) (fun h11 => ?_)
        · have := i32_rng x1
          have : 0 ≤ (σ.1 0 9).toInt ∧ (σ.1 0 9).toInt ≤ 10 := hI.1 0 9
          have : 0 ≤ (σ.1 0 46).toInt ∧ (σ.1 0 46).toInt ≤ 4 := hI.1 0 46
          have : 0 ≤ (σ.1 0 3).toInt ∧ (σ.1 0 3).toInt ≤ 12 := hI.1 0 3
          have : 0 ≤ (σ.1 0 45).toInt ∧ (σ.1 0 45).toInt ≤ 80 := hI.1 0 45
          exact sX12_product_39 t0 o0 n0 b0 w0 r qX12_sum qX12_product qX12_one (fX12_product_5 qX12_sum qX12_product qX12_one n) hqX12_sum hqX12_product hqX12_one σ x1 hI (by omega) (by omega) (by omega) (by omega) (by first | assumption | exact KeM.rf _) (by omega) (by omega) (by omega) (fun y0 y1 q0 q1 q2 q3 q4 q5 q6 q7 q8 => ih y0 y1 q0 q1 q2 q3 q4 q5 q6 q7 (by omega))
        · refine ok_bi (sX12_here σ hI) (fun r13 hr12 => ?_)
          obtain ⟨p13, p14, p15⟩ := hr12
          have p13 : (-1) ≤ r13.toInt := p13
          have p14 : r13.toInt ≤ 255 := p14
          have p15 : r13.toInt ≠ -1 → (σ.1 0 45).toInt ≤ 79 := p15
          have : (37 : Int32).toInt = 37 := by decide
          refine ok_eq (fun h16 => ?_) (fun h16 => ?_)
          · have := i32_rng x1
            have : 0 ≤ (σ.1 0 9).toInt ∧ (σ.1 0 9).toInt ≤ 10 := hI.1 0 9
            have : 0 ≤ (σ.1 0 46).toInt ∧ (σ.1 0 46).toInt ≤ 4 := hI.1 0 46
            have : 0 ≤ (σ.1 0 3).toInt ∧ (σ.1 0 3).toInt ≤ 12 := hI.1 0 3
            have : 0 ≤ (σ.1 0 45).toInt ∧ (σ.1 0 45).toInt ≤ 80 := hI.1 0 45
            exact sX12_product_39 t0 o0 n0 b0 w0 r qX12_sum qX12_product qX12_one (fX12_product_5 qX12_sum qX12_product qX12_one n) hqX12_sum hqX12_product hqX12_one σ x1 hI (by omega) (by omega) (by omega) (by omega) (by first | assumption | exact KeM.rf _) (by omega) (by omega) (by omega) (fun y0 y1 q0 q1 q2 q3 q4 q5 q6 q7 q8 => ih y0 y1 q0 q1 q2 q3 q4 q5 q6 q7 (by omega))
          · have := i32_rng x1
            exact ok_some ⟨hI, by show (σ.1 0 9).toInt = t0; omega, by show (σ.1 0 46).toInt = o0; omega, by show (σ.1 0 3).toInt = n0; omega, by show b0 ≤ (σ.1 0 45).toInt; omega, by show KeM w0 σ; assumption⟩
    · have := i32_rng x1
      exact ok_some ⟨hI, by show (σ.1 0 9).toInt = t0; omega, by show (σ.1 0 46).toInt = o0; omega, by show (σ.1 0 3).toInt = n0; omega, by show b0 ≤ (σ.1 0 45).toInt; omega, by show KeM w0 σ; assumption⟩

theorem sX12_product_0 {g : Nat} (t0 : Int) (o0 : Int) (n0 : Int) (b0 : Int) (w0 : S2) (r : Int) (qX12_sum : S2 → Option (Int32 × S2)) (qX12_product : S2 → Option (Int32 × S2)) (qX12_one : S2 → Option (Int32 × S2)) (hqX12_sum : ∀ (t0 : Int) (o0 : Int) (n0 : Int) (b0 : Int) (w0 : S2) (σ : S2), IvM g σ → (σ.1 0 9).toInt = t0 → (σ.1 0 46).toInt = o0 → (σ.1 0 3).toInt = n0 → b0 ≤ (σ.1 0 45).toInt → KeM w0 σ → 0 ≤ (r - 1) → 14 - 3 * o0 ≤ (r - 1) → Ok (fun z => IvM g z.2 ∧ (z.2.1 0 9).toInt = t0 ∧ (z.2.1 0 46).toInt = o0 ∧ (z.2.1 0 3).toInt = n0 ∧ b0 ≤ (z.2.1 0 45).toInt ∧ KeM w0 z.2) (qX12_sum σ)) (hqX12_product : ∀ (t0 : Int) (o0 : Int) (n0 : Int) (b0 : Int) (w0 : S2) (σ : S2), IvM g σ → (σ.1 0 9).toInt = t0 → (σ.1 0 46).toInt = o0 → (σ.1 0 3).toInt = n0 → b0 ≤ (σ.1 0 45).toInt → KeM w0 σ → 0 ≤ (r - 1) → 13 - 3 * o0 ≤ (r - 1) → Ok (fun z => IvM g z.2 ∧ (z.2.1 0 9).toInt = t0 ∧ (z.2.1 0 46).toInt = o0 ∧ (z.2.1 0 3).toInt = n0 ∧ b0 ≤ (z.2.1 0 45).toInt ∧ KeM w0 z.2) (qX12_product σ)) (hqX12_one : ∀ (t0 : Int) (o0 : Int) (n0 : Int) (b0 : Int) (w0 : S2) (σ : S2), IvM g σ → (σ.1 0 9).toInt = t0 → (σ.1 0 46).toInt = o0 → (σ.1 0 3).toInt = n0 → b0 ≤ (σ.1 0 45).toInt → KeM w0 σ → 0 ≤ (r - 1) → 12 - 3 * o0 ≤ (r - 1) → Ok (fun z => IvM g z.2 ∧ (z.2.1 0 9).toInt = t0 ∧ (z.2.1 0 46).toInt = o0 ∧ (z.2.1 0 3).toInt = n0 ∧ b0 ≤ (z.2.1 0 45).toInt ∧ KeM w0 z.2) (qX12_one σ)) (σ : S2) (hI : IvM g σ) (p9000 : (σ.1 0 9).toInt = t0) (p9001 : (σ.1 0 46).toInt = o0) (p9002 : (σ.1 0 3).toInt = n0) (p9003 : b0 ≤ (σ.1 0 45).toInt) (p9004 : KeM w0 σ) (p9005 : 0 ≤ r) (p9006 : 13 - 3 * o0 ≤ r)  : Ok (fun z => IvM g z.2 ∧ (z.2.1 0 9).toInt = t0 ∧ (z.2.1 0 46).toInt = o0 ∧ (z.2.1 0 3).toInt = n0 ∧ b0 ≤ (z.2.1 0 45).toInt ∧ KeM w0 z.2) (fX12_product_0 qX12_sum qX12_product qX12_one σ) := by
  have hFU : ((FU : Nat) : Int) = 100000 := rfl
  unfold fX12_product_0
  have : 0 ≤ (σ.1 0 9).toInt ∧ (σ.1 0 9).toInt ≤ 10 := hI.1 0 9
  have : 0 ≤ (σ.1 0 46).toInt ∧ (σ.1 0 46).toInt ≤ 4 := hI.1 0 46
  have : 0 ≤ (σ.1 0 3).toInt ∧ (σ.1 0 3).toInt ≤ 12 := hI.1 0 3
  have : 0 ≤ (σ.1 0 45).toInt ∧ (σ.1 0 45).toInt ≤ 80 := hI.1 0 45
  refine ok_bs (hqX12_one (σ.1 0 9).toInt (σ.1 0 46).toInt (σ.1 0 3).toInt (σ.1 0 45).toInt w0 σ hI (by omega) (by omega) (by omega) (by omega) (by first | assumption | exact KeM.rf _) (by omega) (by omega)) (fun r15 σ16 hr1 => ?_)
  obtain ⟨p2, p3, p4, p5, p6, p7⟩ := hr1
  have p2 : IvM g σ16 := p2
  have p3 : (σ16.1 0 9).toInt = (σ.1 0 9).toInt := p3
  have p4 : (σ16.1 0 46).toInt = (σ.1 0 46).toInt := p4
  have p5 : (σ16.1 0 3).toInt = (σ.1 0 3).toInt := p5
  have p6 : (σ.1 0 45).toInt ≤ (σ16.1 0 45).toInt := p6
  have p7 : KeM w0 σ16 := p7
  have := i32_rng r15
  have : 0 ≤ (σ16.1 0 9).toInt ∧ (σ16.1 0 9).toInt ≤ 10 := p2.1 0 9
  have : 0 ≤ (σ16.1 0 46).toInt ∧ (σ16.1 0 46).toInt ≤ 4 := p2.1 0 46
  have : 0 ≤ (σ16.1 0 3).toInt ∧ (σ16.1 0 3).toInt ≤ 12 := p2.1 0 3
  have : 0 ≤ (σ16.1 0 45).toInt ∧ (σ16.1 0 45).toInt ≤ 80 := p2.1 0 45
  exact sX12_product_5 t0 o0 n0 b0 w0 r qX12_sum qX12_product qX12_one hqX12_sum hqX12_product hqX12_one FU σ16 r15 p2 (by omega) (by omega) (by omega) (by omega) (by first | assumption | exact KeM.rf _) (by omega) (by omega) (by omega)

theorem sX12_one_160 {g : Nat} (t0 : Int) (o0 : Int) (n0 : Int) (b0 : Int) (w0 : S2) (r : Int) (qX12_sum : S2 → Option (Int32 × S2)) (qX12_product : S2 → Option (Int32 × S2)) (qX12_one : S2 → Option (Int32 × S2)) (hqX12_sum : ∀ (t0 : Int) (o0 : Int) (n0 : Int) (b0 : Int) (w0 : S2) (σ : S2), IvM g σ → (σ.1 0 9).toInt = t0 → (σ.1 0 46).toInt = o0 → (σ.1 0 3).toInt = n0 → b0 ≤ (σ.1 0 45).toInt → KeM w0 σ → 0 ≤ (r - 1) → 14 - 3 * o0 ≤ (r - 1) → Ok (fun z => IvM g z.2 ∧ (z.2.1 0 9).toInt = t0 ∧ (z.2.1 0 46).toInt = o0 ∧ (z.2.1 0 3).toInt = n0 ∧ b0 ≤ (z.2.1 0 45).toInt ∧ KeM w0 z.2) (qX12_sum σ)) (hqX12_product : ∀ (t0 : Int) (o0 : Int) (n0 : Int) (b0 : Int) (w0 : S2) (σ : S2), IvM g σ → (σ.1 0 9).toInt = t0 → (σ.1 0 46).toInt = o0 → (σ.1 0 3).toInt = n0 → b0 ≤ (σ.1 0 45).toInt → KeM w0 σ → 0 ≤ (r - 1) → 13 - 3 * o0 ≤ (r - 1) → Ok (fun z => IvM g z.2 ∧ (z.2.1 0 9).toInt = t0 ∧ (z.2.1 0 46).toInt = o0 ∧ (z.2.1 0 3).toInt = n0 ∧ b0 ≤ (z.2.1 0 45).toInt ∧ KeM w0 z.2) (qX12_product σ)) (hqX12_one : ∀ (t0 : Int) (o0 : Int) (n0 : Int) (b0 : Int) (w0 : S2) (σ : S2), IvM g σ → (σ.1 0 9).toInt = t0 → (σ.1 0 46).toInt = o0 → (σ.1 0 3).toInt = n0 → b0 ≤ (σ.1 0 45).toInt → KeM w0 σ → 0 ≤ (r - 1) → 12 - 3 * o0 ≤ (r - 1) → Ok (fun z => IvM g z.2 ∧ (z.2.1 0 9).toInt = t0 ∧ (z.2.1 0 46).toInt = o0 ∧ (z.2.1 0 3).toInt = n0 ∧ b0 ≤ (z.2.1 0 45).toInt ∧ KeM w0 z.2) (qX12_one σ)) (σ : S2) (x1 : Int32) (hI : IvM g σ) (p9000 : 110 ≤ x1.toInt) (p9001 : x1.toInt ≤ 120) (p9002 : (σ.1 0 9).toInt = t0) (p9003 : (σ.1 0 46).toInt = o0) (p9004 : (σ.1 0 3).toInt = n0) (p9005 : b0 ≤ (σ.1 0 45).toInt) (p9006 : KeM w0 σ) (p9007 : (σ.1 0 45).toInt ≤ 79) (p9008 : 0 ≤ r) (p9009 : 12 - 3 * o0 ≤ r)  : Ok (fun z => IvM g z.2 ∧ (z.2.1 0 9).toInt = t0 ∧ (z.2.1 0 46).toInt = o0 ∧ (z.2.1 0 3).toInt = n0 ∧ b0 ≤ (z.2.1 0 45).toInt ∧ KeM w0 z.2) (fX12_one_160 qX12_sum qX12_product qX12_one σ x1) := by
  have hFU : ((FU : Nat) : Int) = 100000 := rfl
  unfold fX12_one_160
  have : 0 ≤ (σ.1 0 45).toInt ∧ (σ.1 0 45).toInt ≤ 80 := hI.1 0 45
  have : (1 : Int32).toInt = 1 := by decide
  have : (((σ.1 0 45) + 1) : Int32).toInt = ((σ.1 0 45) : Int32).toInt + (1 : Int32).toInt := i32_add (by omega) (by omega)
  refine ok_nm (fun σ1 hs1 => ?_)
  have hI2 : IvM g σ1 := by rw [hs1]; exact IvM.wI hI rfl (show 0 ≤ (((σ.1 0 45) + 1) : Int32).toInt by omega) (show (((σ.1 0 45) + 1) : Int32).toInt ≤ 80 by omega)
  have : KeM w0 σ1 := by rw [hs1]; exact (show KeM w0 σ by assumption)
  have : (σ1.1 0 9).toInt = (σ.1 0 9).toInt := by rw [hs1]; rfl
  have : (σ1.1 0 45).toInt = (((σ.1 0 45) + 1) : Int32).toInt := by rw [hs1]; rfl
  have : (σ1.1 0 46).toInt = (σ.1 0 46).toInt := by rw [hs1]; rfl
  have : (σ1.1 0 47).toInt = (σ.1 0 47).toInt := by rw [hs1]; rfl
  have : (σ1.1 0 3).toInt = (σ.1 0 3).toInt := by rw [hs1]; rfl
  have : (110 : Int32).toInt = 110 := by decide
  refine ok_eq (fun h3 => ?_) (fun h3 => ?_)
  · have := i32_rng (σ1.1 0 48)
    exact ok_some ⟨hI2, by show (σ1.1 0 9).toInt = t0; omega, by show (σ1.1 0 46).toInt = o0; omega, by show (σ1.1 0 3).toInt = n0; omega, by show b0 ≤ (σ1.1 0 45).toInt; omega, by show KeM w0 σ1; assumption⟩
  · have : (117 : Int32).toInt = 117 := by decide
    refine ok_eq (fun h4 => ?_) (fun h4 => ?_)
    · have := i32_rng (σ1.1 0 49)
      exact ok_some ⟨hI2, by show (σ1.1 0 9).toInt = t0; omega, by show (σ1.1 0 46).toInt = o0; omega, by show (σ1.1 0 3).toInt = n0; omega, by show b0 ≤ (σ1.1 0 45).toInt; omega, by show KeM w0 σ1; assumption⟩
    · have : (116 : Int32).toInt = 116 := by decide
      refine ok_eq (fun h5 => ?_) (fun h5 => ?_)
      · have := i32_rng (σ1.1 0 50)
        exact ok_some ⟨hI2, by show (σ1.1 0 9).toInt = t0; omega, by show (σ1.1 0 46).toInt = o0; omega, by show (σ1.1 0 3).toInt = n0; omega, by show b0 ≤ (σ1.1 0 45).toInt; omega, by show KeM w0 σ1; assumption⟩
      · have : 0 ≤ (σ1.1 0 51).toInt ∧ (σ1.1 0 51).toInt ≤ 16 := hI2.1 0 51
        exact ok_some ⟨hI2, by show (σ1.1 0 9).toInt = t0; omega, by show (σ1.1 0 46).toInt = o0; omega, by show (σ1.1 0 3).toInt = n0; omega, by show b0 ≤ (σ1.1 0 45).toInt; omega, by show KeM w0 σ1; assumption⟩

theorem sX12_one_136 {g : Nat} (t0 : Int) (o0 : Int) (n0 : Int) (b0 : Int) (w0 : S2) (r : Int) (qX12_sum : S2 → Option (Int32 × S2)) (qX12_product : S2 → Option (Int32 × S2)) (qX12_one : S2 → Option (Int32 × S2)) (hqX12_sum : ∀ (t0 : Int) (o0 : Int) (n0 : Int) (b0 : Int) (w0 : S2) (σ : S2), IvM g σ → (σ.1 0 9).toInt = t0 → (σ.1 0 46).toInt = o0 → (σ.1 0 3).toInt = n0 → b0 ≤ (σ.1 0 45).toInt → KeM w0 σ → 0 ≤ (r - 1) → 14 - 3 * o0 ≤ (r - 1) → Ok (fun z => IvM g z.2 ∧ (z.2.1 0 9).toInt = t0 ∧ (z.2.1 0 46).toInt = o0 ∧ (z.2.1 0 3).toInt = n0 ∧ b0 ≤ (z.2.1 0 45).toInt ∧ KeM w0 z.2) (qX12_sum σ)) (hqX12_product : ∀ (t0 : Int) (o0 : Int) (n0 : Int) (b0 : Int) (w0 : S2) (σ : S2), IvM g σ → (σ.1 0 9).toInt = t0 → (σ.1 0 46).toInt = o0 → (σ.1 0 3).toInt = n0 → b0 ≤ (σ.1 0 45).toInt → KeM w0 σ → 0 ≤ (r - 1) → 13 - 3 * o0 ≤ (r - 1) → Ok (fun z => IvM g z.2 ∧ (z.2.1 0 9).toInt = t0 ∧ (z.2.1 0 46).toInt = o0 ∧ (z.2.1 0 3).toInt = n0 ∧ b0 ≤ (z.2.1 0 45).toInt ∧ KeM w0 z.2) (qX12_product σ)) (hqX12_one : ∀ (t0 : Int) (o0 : Int) (n0 : Int) (b0 : Int) (w0 : S2) (σ : S2), IvM g σ → (σ.1 0 9).toInt = t0 → (σ.1 0 46).toInt = o0 → (σ.1 0 3).toInt = n0 → b0 ≤ (σ.1 0 45).toInt → KeM w0 σ → 0 ≤ (r - 1) → 12 - 3 * o0 ≤ (r - 1) → Ok (fun z => IvM g z.2 ∧ (z.2.1 0 9).toInt = t0 ∧ (z.2.1 0 46).toInt = o0 ∧ (z.2.1 0 3).toInt = n0 ∧ b0 ≤ (z.2.1 0 45).toInt ∧ KeM w0 z.2) (qX12_one σ)) (σ : S2) (x1 : Int32) (hI : IvM g σ) (p9000 : (-1) ≤ x1.toInt) (p9001 : x1.toInt ≤ 255) (p9002 : (σ.1 0 9).toInt = t0) (p9003 : (σ.1 0 46).toInt = o0) (p9004 : (σ.1 0 3).toInt = n0) (p9005 : b0 ≤ (σ.1 0 45).toInt) (p9006 : KeM w0 σ) (p9007 : (x1.toInt = -1 ∨ (σ.1 0 45).toInt ≤ 79)) (p9008 : 0 ≤ r) (p9009 : 12 - 3 * o0 ≤ r)  : Ok (fun z => IvM g z.2 ∧ (z.2.1 0 9).toInt = t0 ∧ (z.2.1 0 46).toInt = o0 ∧ (z.2.1 0 3).toInt = n0 ∧ b0 ≤ (z.2.1 0 45).toInt ∧ KeM w0 z.2) (fX12_one_136 qX12_sum qX12_product qX12_one σ x1) := by
  have hFU : ((FU : Nat) : Int) = 100000 := rfl
  unfold fX12_one_136
  have : (110 : Int32).toInt = 110 := by decide
  refine ok_eq (fun h1 => ?_) (fun h1 => ?_)
  · have : 0 ≤ (σ.1 0 9).toInt ∧ (σ.1 0 9).toInt ≤ 10 := hI.1 0 9
    have : 0 ≤ (σ.1 0 46).toInt ∧ (σ.1 0 46).toInt ≤ 4 := hI.1 0 46
    have : 0 ≤ (σ.1 0 3).toInt ∧ (σ.1 0 3).toInt ≤ 12 := hI.1 0 3
    have : 0 ≤ (σ.1 0 45).toInt ∧ (σ.1 0 45).toInt ≤ 80 := hI.1 0 45
    exact sX12_one_160 t0 o0 n0 b0 w0 r qX12_sum qX12_product qX12_one hqX12_sum hqX12_product hqX12_one σ x1 hI (by omega) (by omega) (by omega) (by omega) (by omega) (by omega) (by first | assumption | exact KeM.rf _) (by omega) (by omega) (by omega)
  · have : (117 : Int32).toInt = 117 := by decide
    refine ok_eq (fun h2 => ?_) (fun h2 => ?_)
    · have : 0 ≤ (σ.1 0 9).toInt ∧ (σ.1 0 9).toInt ≤ 10 := hI.1 0 9
      have : 0 ≤ (σ.1 0 46).toInt ∧ (σ.1 0 46).toInt ≤ 4 := hI.1 0 46
      have : 0 ≤ (σ.1 0 3).toInt ∧ (σ.1 0 3).toInt ≤ 12 := hI.1 0 3
      have : 0 ≤ (σ.1 0 45).toInt ∧ (σ.1 0 45).toInt ≤ 80 := hI.1 0 45
      exact sX12_one_160 t0 o0 n0 b0 w0 r qX12_sum qX12_product qX12_one hqX12_sum hqX12_product hqX12_one σ x1 hI (by omega) (by omega) (by omega) (by omega) (by omega) (by omega) (by first | assumption | exact KeM.rf _) (by omega) (by omega) (by omega)
    · have : (116 : Int32).toInt = 116 := by decide
      refine ok_eq (fun h3 => ?_) (fun h3 => ?_)
      · have : 0 ≤ (σ.1 0 9).toInt ∧ (σ.1 0 9).toInt ≤ 10 := hI.1 0 9
        have : 0 ≤ (σ.1 0 46).toInt ∧ (σ.1 0 46).toInt ≤ 4 := hI.1 0 46
        have : 0 ≤ (σ.1 0 3).toInt ∧ (σ.1 0 3).toInt ≤ 12 := hI.1 0 3
        have : 0 ≤ (σ.1 0 45).toInt ∧ (σ.1 0 45).toInt ≤ 80 := hI.1 0 45
        exact sX12_one_160 t0 o0 n0 b0 w0 r qX12_sum qX12_product qX12_one hqX12_sum hqX12_product hqX12_one σ x1 hI (by omega) (by omega) (by omega) (by omega) (by omega) (by omega) (by first | assumption | exact KeM.rf _) (by omega) (by omega) (by omega)
      · have : (120 : Int32).toInt = 120 := by decide
        refine ok_eq (fun h4 => ?_) (fun h4 => ?_)
        · have : 0 ≤ (σ.1 0 9).toInt ∧ (σ.1 0 9).toInt ≤ 10 := hI.1 0 9
          have : 0 ≤ (σ.1 0 46).toInt ∧ (σ.1 0 46).toInt ≤ 4 := hI.1 0 46
          have : 0 ≤ (σ.1 0 3).toInt ∧ (σ.1 0 3).toInt ≤ 12 := hI.1 0 3
          have : 0 ≤ (σ.1 0 45).toInt ∧ (σ.1 0 45).toInt ≤ 80 := hI.1 0 45
          exact sX12_one_160 t0 o0 n0 b0 w0 r qX12_sum qX12_product qX12_one hqX12_sum hqX12_product hqX12_one σ x1 hI (by omega) (by omega) (by omega) (by omega) (by omega) (by omega) (by first | assumption | exact KeM.rf _) (by omega) (by omega) (by omega)
        · have : (1 : Int32).toInt = 1 := by decide
          refine ok_nm (fun σ2 hs5 => ?_)
          have hI6 : IvM g σ2 := by rw [hs5]; exact IvM.wI hI rfl (show 0 ≤ (1 : Int32).toInt by omega) (show (1 : Int32).toInt ≤ 1 by omega)
          have : KeM w0 σ2 := by rw [hs5]; exact (show KeM w0 σ by assumption)
          have : (σ2.1 0 9).toInt = (σ.1 0 9).toInt := by rw [hs5]; rfl
          have : (σ2.1 0 45).toInt = (σ.1 0 45).toInt := by rw [hs5]; rfl
          have : (σ2.1 0 46).toInt = (σ.1 0 46).toInt := by rw [hs5]; rfl
          have : (σ2.1 0 47).toInt = (1 : Int32).toInt := by rw [hs5]; rfl
          have : (σ2.1 0 3).toInt = (σ.1 0 3).toInt := by rw [hs5]; rfl
          have : (0 : Int32).toInt = 0 := by decide
          exact ok_some ⟨hI6, by show (σ2.1 0 9).toInt = t0; omega, by show (σ2.1 0 46).toInt = o0; omega, by show (σ2.1 0 3).toInt = n0; omega, by show b0 ≤ (σ2.1 0 45).toInt; omega, by show KeM w0 σ2; assumption⟩

theorem sX12_one_29 {g : Nat} (t0 : Int) (o0 : Int) (n0 : Int) (b0 : Int) (w0 : S2) (r : Int) (qX12_sum : S2 → Option (Int32 × S2)) (qX12_product : S2 → Option (Int32 × S2)) (qX12_one : S2 → Option (Int32 × S2)) (hqX12_sum : ∀ (t0 : Int) (o0 : Int) (n0 : Int) (b0 : Int) (w0 : S2) (σ : S2), IvM g σ → (σ.1 0 9).toInt = t0 → (σ.1 0 46).toInt = o0 → (σ.1 0 3).toInt = n0 → b0 ≤ (σ.1 0 45).toInt → KeM w0 σ → 0 ≤ (r - 1) → 14 - 3 * o0 ≤ (r - 1) → Ok (fun z => IvM g z.2 ∧ (z.2.1 0 9).toInt = t0 ∧ (z.2.1 0 46).toInt = o0 ∧ (z.2.1 0 3).toInt = n0 ∧ b0 ≤ (z.2.1 0 45).toInt ∧ KeM w0 z.2) (qX12_sum σ)) (hqX12_product : ∀ (t0 : Int) (o0 : Int) (n0 : Int) (b0 : Int) (w0 : S2) (σ : S2), IvM g σ → (σ.1 0 9).toInt = t0 → (σ.1 0 46).toInt = o0 → (σ.1 0 3).toInt = n0 → b0 ≤ (σ.1 0 45).toInt → KeM w0 σ → 0 ≤ (r - 1) → 13 - 3 * o0 ≤ (r - 1) → Ok (fun z => IvM g z.2 ∧ (z.2.1 0 9).toInt = t0 ∧ (z.2.1 0 46).toInt = o0 ∧ (z.2.1 0 3).toInt = n0 ∧ b0 ≤ (z.2.1 0 45).toInt ∧ KeM w0 z.2) (qX12_product σ)) (hqX12_one : ∀ (t0 : Int) (o0 : Int) (n0 : Int) (b0 : Int) (w0 : S2) (σ : S2), IvM g σ → (σ.1 0 9).toInt = t0 → (σ.1 0 46).toInt = o0 → (σ.1 0 3).toInt = n0 → b0 ≤ (σ.1 0 45).toInt → KeM w0 σ → 0 ≤ (r - 1) → 12 - 3 * o0 ≤ (r - 1) → Ok (fun z => IvM g z.2 ∧ (z.2.1 0 9).toInt = t0 ∧ (z.2.1 0 46).toInt = o0 ∧ (z.2.1 0 3).toInt = n0 ∧ b0 ≤ (z.2.1 0 45).toInt ∧ KeM w0 z.2) (qX12_one σ)) : ∀ (n : Nat) (σ : S2) (x2 : Int32) (x3 : Int32), IvM g σ → 0 ≤ x3.toInt → x3.toInt ≤ 3 → (σ.1 0 9).toInt = t0 → (σ.1 0 46).toInt = o0 → (σ.1 0 3).toInt = n0 → b0 ≤ (σ.1 0 45).toInt → KeM w0 σ → 0 ≤ r → 12 - 3 * o0 ≤ r → 3 - x3.toInt < (n : Int) → Ok (fun z => IvM g z.2 ∧ (z.2.1 0 9).toInt = t0 ∧ (z.2.1 0 46).toInt = o0 ∧ (z.2.1 0 3).toInt = n0 ∧ b0 ≤ (z.2.1 0 45).toInt ∧ KeM w0 z.2) (fX12_one_29 qX12_sum qX12_product qX12_one n σ x2 x3) := by
  have hFU : ((FU : Nat) : Int) = 100000 := rfl
  intro n
  induction n with
  | zero => intro σ x2 x3 hI p9000 p9001 p9002 p9003 p9004 p9005 p9006 p9007 p9008 hm; exfalso; omega
  | succ n ih =>
    intro σ x2 x3 hI p9000 p9001 p9002 p9003 p9004 p9005 p9006 p9007 p9008 hm
    unfold fX12_one_29
    have : (3 : Int32).toInt = 3 := by decide
    refine ok_le (fun h1 => ?_) (fun h1 => ?_)
    · have := i32_rng x2
      exact ok_some ⟨hI, by show (σ.1 0 9).toInt = t0; omega, by show (σ.1 0 46).toInt = o0; omega, by show (σ.1 0 3).toInt = n0; omega, by show b0 ≤ (σ.1 0 45).toInt; omega, by show KeM w0 σ; assumption⟩
    · refine ok_bi (sX12_here σ hI) (fun r3 hr2 => ?_)
      obtain ⟨p3, p4, p5⟩ := hr2
      have p3 : (-1) ≤ r3.toInt := p3
      have p4 : r3.toInt ≤ 255 := p4
      have p5 : r3.toInt ≠ -1 → (σ.1 0 45).toInt ≤ 79 := p5
      have : (48 : Int32).toInt = 48 := by decide
      have : (57 : Int32).toInt = 57 := by decide
      refine ok_bi (sX12_in σ r3 48 57 hI (by omega) (by omega) (by omega) (by omega)) (fun r5 hr6 => ?_)
      obtain ⟨p7, p8, p9⟩ := hr6
      have p7 : 0 ≤ r5.toInt := p7
      have p8 : r5.toInt ≤ 1 := p8
      have p9 : r5.toInt ≠ 0 → (48 : Int32).toInt ≤ r3.toInt ∧ r3.toInt ≤ (57 : Int32).toInt := p9
      have : (0 : Int32).toInt = 0 := by decide
      refine ok_eq (fun h10 => ?_) (fun h10 => ?_)
      · have := i32_rng x2
        exact ok_some ⟨hI, by show (σ.1 0 9).toInt = t0; omega, by show (σ.1 0 46).toInt = o0; omega, by show (σ.1 0 3).toInt = n0; omega, by show b0 ≤ (σ.1 0 45).toInt; omega, by show KeM w0 σ; assumption⟩
      · refine ok_bi (sX12_here σ hI) (fun r7 hr11 => ?_)
        obtain ⟨p12, p13, p14⟩ := hr11
        have p12 : (-1) ≤ r7.toInt := p12
        have p13 : r7.toInt ≤ 255 := p13
        have p14 : r7.toInt ≠ -1 → (σ.1 0 45).toInt ≤ 79 := p14
        have : (10 : Int32).toInt = 10 := by decide
        have := i32_rng x2
        have := i32_rng (10 * x2)
        have := i32_rng ((10 * x2) + r7)
        have := i32_rng (((10 * x2) + r7) - 48)
        refine ok_nmI (fun v9 hv9 he15 => ?_)
        have : 0 ≤ (σ.1 0 45).toInt ∧ (σ.1 0 45).toInt ≤ 80 := hI.1 0 45
        have : (1 : Int32).toInt = 1 := by decide
        have : (((σ.1 0 45) + 1) : Int32).toInt = ((σ.1 0 45) : Int32).toInt + (1 : Int32).toInt := i32_add (by omega) (by omega)
        refine ok_nm (fun σ10 hs16 => ?_)
        have hI17 : IvM g σ10 := by rw [hs16]; exact IvM.wI hI rfl (show 0 ≤ (((σ.1 0 45) + 1) : Int32).toInt by omega) (show (((σ.1 0 45) + 1) : Int32).toInt ≤ 80 by omega)
        have : KeM w0 σ10 := by rw [hs16]; exact (show KeM w0 σ by assumption)
        have : (σ10.1 0 9).toInt = (σ.1 0 9).toInt := by rw [hs16]; rfl
        have : (σ10.1 0 45).toInt = (((σ.1 0 45) + 1) : Int32).toInt := by rw [hs16]; rfl
        have : (σ10.1 0 46).toInt = (σ.1 0 46).toInt := by rw [hs16]; rfl
        have : (σ10.1 0 47).toInt = (σ.1 0 47).toInt := by rw [hs16]; rfl
        have : (σ10.1 0 3).toInt = (σ.1 0 3).toInt := by rw [hs16]; rfl
        have : ((x3 + 1) : Int32).toInt = (x3 : Int32).toInt + (1 : Int32).toInt := i32_add (by omega) (by omega)
        refine ok_nmI (fun v11 hv11 he18 => ?_)
        have := i32_rng v9
        have : 0 ≤ (σ10.1 0 9).toInt ∧ (σ10.1 0 9).toInt ≤ 10 := hI17.1 0 9
        have : 0 ≤ (σ10.1 0 46).toInt ∧ (σ10.1 0 46).toInt ≤ 4 := hI17.1 0 46
        have : 0 ≤ (σ10.1 0 3).toInt ∧ (σ10.1 0 3).toInt ≤ 12 := hI17.1 0 3
        have : 0 ≤ (σ10.1 0 45).toInt ∧ (σ10.1 0 45).toInt ≤ 80 := hI17.1 0 45
        exact ih σ10 v9 v11 hI17 (by omega) (by omega) (by omega) (by omega) (by omega) (by omega) (by first | assumption | exact KeM.rf _) (by omega) (by omega) (by omega)

