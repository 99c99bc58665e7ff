theorem sX12_harm_100 {g : Nat} (k52 : S2 → Int32 → Int32 → Int32 → Int32 → Int32 → Option (Int32 × S2)) (σ : S2) (x1 : Int32) (x2 : Int32) (x3 : Int32) (x5 : Int32) (s0 : Int32) (hI : IvM g σ) (p9000 : 0 ≤ x1.toInt) (p9001 : x1.toInt ≤ 9) (p9002 : (-1) ≤ x2.toInt) (p9003 : x2.toInt ≤ 5) (p9004 : 0 ≤ x3.toInt) (p9005 : x3.toInt ≤ 5) (p9006 : 0 ≤ x5.toInt) (p9007 : x5.toInt ≤ 11) (p9008 : 0 ≤ s0.toInt) (p9009 : g = 0) (p9010 : x1.toInt < (σ.1 0 9).toInt) (hk52 : ∀ (y0 : S2) (y1 : Int32) (y2 : Int32) (y3 : Int32) (y4 : Int32) (y5 : Int32), IvM g y0 → 0 ≤ y1.toInt → y1.toInt ≤ 9 → (-1) ≤ y2.toInt → y2.toInt ≤ 5 → 0 ≤ y3.toInt → y3.toInt ≤ 5 → 0 ≤ y4.toInt → 0 ≤ y5.toInt → y5.toInt ≤ 12 → g = 0 → y1.toInt < (y0.1 0 9).toInt → x5.toInt + 1 ≤ y5.toInt → x3.toInt ≤ y3.toInt → Ok (fun z => IvM g z.2 ∧ (-1) ≤ z.1.toInt ∧ z.1.toInt ≤ 5) (k52 y0 y1 y2 y3 y4 y5)) : Ok (fun z => IvM g z.2 ∧ (-1) ≤ z.1.toInt ∧ z.1.toInt ≤ 5) (fX12_harm_100 k52 σ x1 x2 x3 x5 s0) := by
  have hFU : ((FU : Nat) : Int) = 100000 := rfl
  unfold fX12_harm_100
  have : (1 : Int32).toInt = 1 := by decide
  have : ((x5 + 1) : Int32).toInt = (x5 : Int32).toInt + (1 : Int32).toInt := i32_add (by omega) (by omega)
  refine ok_nmI (fun v3 hv3 he1 => ?_)
  have := i32_rng s0
  exact hk52 σ x1 x2 x3 s0 v3 hI (by omega) (by omega) (by omega) (by omega) (by omega) (by omega) (by omega) (by omega) (by omega) (by omega) (by omega) (by omega) (by omega)

theorem sX12_harm_84 {g : Nat} (k52 : S2 → Int32 → Int32 → Int32 → Int32 → Int32 → Option (Int32 × S2)) (σ : S2) (x1 : Int32) (x2 : Int32) (x3 : Int32) (x4 : Int32) (x5 : Int32) (s0 : Int32) (hI : IvM g σ) (p9000 : 0 ≤ x1.toInt) (p9001 : x1.toInt ≤ 9) (p9002 : (-1) ≤ x2.toInt) (p9003 : x2.toInt ≤ 5) (p9004 : 0 ≤ x3.toInt) (p9005 : x3.toInt ≤ 5) (p9006 : 0 ≤ x4.toInt) (p9007 : 0 ≤ x5.toInt) (p9008 : x5.toInt ≤ 11) (p9009 : g = 0) (p9010 : x1.toInt < (σ.1 0 9).toInt) (hk52 : ∀ (y0 : S2) (y1 : Int32) (y2 : Int32) (y3 : Int32) (y4 : Int32) (y5 : Int32), IvM g y0 → 0 ≤ y1.toInt → y1.toInt ≤ 9 → (-1) ≤ y2.toInt → y2.toInt ≤ 5 → 0 ≤ y3.toInt → y3.toInt ≤ 5 → 0 ≤ y4.toInt → 0 ≤ y5.toInt → y5.toInt ≤ 12 → g = 0 → y1.toInt < (y0.1 0 9).toInt → x5.toInt + 1 ≤ y5.toInt → x3.toInt ≤ y3.toInt → Ok (fun z => IvM g z.2 ∧ (-1) ≤ z.1.toInt ∧ z.1.toInt ≤ 5) (k52 y0 y1 y2 y3 y4 y5)) : Ok (fun z => IvM g z.2 ∧ (-1) ≤ z.1.toInt ∧ z.1.toInt ≤ 5) (fX12_harm_84 k52 σ x1 x2 x3 x4 x5 s0) := by
  have hFU : ((FU : Nat) : Int) = 100000 := rfl
  unfold fX12_harm_84
  have := i32_rng s0
  have := i32_rng x4
  refine ok_le (fun h1 => ?_) (fun h1 => ?_)
  · exact sX12_harm_100 k52 σ x1 x2 x3 x5 x4 hI (by omega) (by omega) (by omega) (by omega) (by omega) (by omega) (by omega) (by omega) (by omega) (by omega) (by omega) (fun y0 y1 y2 y3 y4 y5 q0 q1 q2 q3 q4 q5 q6 q7 q8 q9 q10 q11 q12 q13 => hk52 y0 y1 y2 y3 y4 y5 q0 q1 q2 q3 q4 q5 q6 q7 q8 q9 q10 q11 (by omega) (by omega))
  · exact sX12_harm_100 k52 σ x1 x2 x3 x5 s0 hI (by omega) (by omega) (by omega) (by omega) (by omega) (by omega) (by omega) (by omega) (by omega) (by omega) (by omega) (fun y0 y1 y2 y3 y4 y5 q0 q1 q2 q3 q4 q5 q6 q7 q8 q9 q10 q11 q12 q13 => hk52 y0 y1 y2 y3 y4 y5 q0 q1 q2 q3 q4 q5 q6 q7 q8 q9 q10 q11 (by omega) (by omega))

theorem sX12_harm_52 {g : Nat} (k21 : S2 → Int32 → Int32 → Int32 → Option (Int32 × S2)) : ∀ (n : Nat) (σ : S2) (x1 : Int32) (x2 : Int32) (x3 : Int32) (x4 : Int32) (x5 : Int32), IvM g σ → 0 ≤ x1.toInt → x1.toInt ≤ 9 → (-1) ≤ x2.toInt → x2.toInt ≤ 5 → 0 ≤ x3.toInt → x3.toInt ≤ 5 → 0 ≤ x4.toInt → 0 ≤ x5.toInt → x5.toInt ≤ 12 → g = 0 → x1.toInt < (σ.1 0 9).toInt → 12 - x5.toInt < (n : Int) → (∀ (y0 : S2) (y1 : Int32) (y2 : Int32) (y3 : Int32), IvM g y0 → 0 ≤ y1.toInt → y1.toInt ≤ 9 → (-1) ≤ y2.toInt → y2.toInt ≤ 5 → 0 ≤ y3.toInt → y3.toInt ≤ 6 → g = 0 → y1.toInt < (y0.1 0 9).toInt → x3.toInt + 1 ≤ y3.toInt → Ok (fun z => IvM g z.2 ∧ (-1) ≤ z.1.toInt ∧ z.1.toInt ≤ 5) (k21 y0 y1 y2 y3)) → Ok (fun z => IvM g z.2 ∧ (-1) ≤ z.1.toInt ∧ z.1.toInt ≤ 5) (fX12_harm_52 k21 n σ x1 x2 x3 x4 x5) := by
  have hFU : ((FU : Nat) : Int) = 100000 := rfl
  intro n
  induction n with
  | zero => intro σ x1 x2 x3 x4 x5 hI p9000 p9001 p9002 p9003 p9004 p9005 p9006 p9007 p9008 p9009 p9010 hm hk21; exfalso; omega
  | succ n ih =>
    intro σ x1 x2 x3 x4 x5 hI p9000 p9001 p9002 p9003 p9004 p9005 p9006 p9007 p9008 p9009 p9010 hm hk21
    unfold fX12_harm_52
    have : 0 ≤ (σ.1 0 3).toInt ∧ (σ.1 0 3).toInt ≤ 12 := hI.1 0 3
    refine ok_le (fun h1 => ?_) (fun h1 => ?_)
    · have : (0 : Int32).toInt = 0 := by decide
      refine ok_lt (fun h2 => ?_) (fun h2 => ?_)
      · have := i32_rng x4
        exact sX12_harm_121 k21 σ x1 x3 x4 hI (by omega) (by omega) (by omega) (by omega) (by omega) (by omega) (by omega) (fun y0 y1 y2 y3 q0 q1 q2 q3 q4 q5 q6 q7 q8 q9 => hk21 y0 y1 y2 y3 q0 q1 q2 q3 q4 q5 q6 q7 q8 (by omega))
      · have : (-1) ≤ (σ.1 0 36).toInt ∧ (σ.1 0 36).toInt ≤ 2147483647 := hI.1 0 36
        have := i32_rng x4
        refine ok_le (fun h3 => ?_) (fun h3 => ?_)
        · exact sX12_harm_129 k21 σ x1 x2 x3 hI (by omega) (by omega) (by omega) (by omega) (by omega) (by omega) (by omega) (by omega) (fun y0 y1 y2 y3 q0 q1 q2 q3 q4 q5 q6 q7 q8 q9 => hk21 y0 y1 y2 y3 q0 q1 q2 q3 q4 q5 q6 q7 q8 (by omega))
        · exact sX12_harm_121 k21 σ x1 x3 x4 hI (by omega) (by omega) (by omega) (by omega) (by omega) (by omega) (by omega) (fun y0 y1 y2 y3 q0 q1 q2 q3 q4 q5 q6 q7 q8 q9 => hk21 y0 y1 y2 y3 q0 q1 q2 q3 q4 q5 q6 q7 q8 (by omega))
    · have : (10 : Int32).toInt = 10 := by decide
      refine ok_bi (sX12_isIn σ 10 x5 hI (by omega) (by omega) (by omega) (by omega)) (fun r4 hr4 => ?_)
      obtain ⟨p5, p6, p7⟩ := hr4
      have p5 : 0 ≤ r4.toInt := p5
      have p6 : r4.toInt ≤ 1 := p6
      have p7 : IiM σ (10 : Int32) x5 r4 := p7
      have : (0 : Int32).toInt = 0 := by decide
      refine ok_eq (fun h8 => ?_) (fun h8 => ?_)
      · have := i32_rng x4
        exact sX12_harm_84 (fX12_harm_52 k21 n) σ x1 x2 x3 x4 x5 0 hI (by omega) (by omega) (by omega) (by omega) (by omega) (by omega) (by omega) (by omega) (by omega) (by omega) (by omega) (fun y0 y1 y2 y3 y4 y5 q0 q1 q2 q3 q4 q5 q6 q7 q8 q9 q10 q11 q12 q13 => ih y0 y1 y2 y3 y4 y5 q0 q1 q2 q3 q4 q5 q6 q7 q8 q9 q10 q11 (by omega) (fun z0 z1 z2 z3 w0 w1 w2 w3 w4 w5 w6 w7 w8 w9 => hk21 z0 z1 z2 z3 w0 w1 w2 w3 w4 w5 w6 w7 w8 (by omega)))
      · have : 0 ≤ (σ.1 0 9).toInt ∧ (σ.1 0 9).toInt ≤ 10 := hI.1 0 9
        refine ok_bs (sX12_shareOf (σ.1 0 9).toInt σ 10 x5 hI (by omega) (by omega) (by omega) (by omega) (by omega) (by omega)) (fun r6 σ7 hr9 => ?_)
        obtain ⟨p10, p11⟩ := hr9
        have p10 : IvM g σ7 := p10
        have p11 : (σ7.1 0 9).toInt = (σ.1 0 9).toInt := p11
        have := i32_rng x4
        have := i32_rng r6
        exact sX12_harm_84 (fX12_harm_52 k21 n) σ7 x1 x2 x3 x4 x5 r6 p10 (by omega) (by omega) (by omega) (by omega) (by omega) (by omega) (by omega) (by omega) (by omega) (by omega) (by omega) (fun y0 y1 y2 y3 y4 y5 q0 q1 q2 q3 q4 q5 q6 q7 q8 q9 q10 q11 q12 q13 => ih y0 y1 y2 y3 y4 y5 q0 q1 q2 q3 q4 q5 q6 q7 q8 q9 q10 q11 (by omega) (fun z0 z1 z2 z3 w0 w1 w2 w3 w4 w5 w6 w7 w8 w9 => hk21 z0 z1 z2 z3 w0 w1 w2 w3 w4 w5 w6 w7 w8 (by omega)))

theorem sX12_harm_21 {g : Nat} : ∀ (n : Nat) (σ : S2) (x1 : Int32) (x2 : Int32) (x3 : Int32), IvM g σ → 0 ≤ x1.toInt → x1.toInt ≤ 9 → (-1) ≤ x2.toInt → x2.toInt ≤ 5 → 0 ≤ x3.toInt → x3.toInt ≤ 6 → g = 0 → x1.toInt < (σ.1 0 9).toInt → 6 - x3.toInt < (n : Int) → Ok (fun z => IvM g z.2 ∧ (-1) ≤ z.1.toInt ∧ z.1.toInt ≤ 5) (fX12_harm_21 n σ x1 x2 x3) := by
  have hFU : ((FU : Nat) : Int) = 100000 := rfl
  intro n
  induction n with
  | zero => intro σ x1 x2 x3 hI p9000 p9001 p9002 p9003 p9004 p9005 p9006 p9007 hm; exfalso; omega
  | succ n ih =>
    intro σ x1 x2 x3 hI p9000 p9001 p9002 p9003 p9004 p9005 p9006 p9007 hm
    unfold fX12_harm_21
    have : 0 ≤ (σ.1 0 34).toInt ∧ (σ.1 0 34).toInt ≤ 6 := hI.1 0 34
    refine ok_le (fun h1 => ?_) (fun h1 => ?_)
    · have : (0 : Int32).toInt = 0 := by decide
      refine ok_nm (fun σ9 hs2 => ?_)
      have hI3 : IvM g σ9 := by rw [hs2]; exact IvM.wI hI rfl (show 0 ≤ (0 : Int32).toInt by omega) (show (0 : Int32).toInt ≤ 6 by omega)
      have : (σ9.1 0 9).toInt = (σ.1 0 9).toInt := by rw [hs2]; rfl
      have : (σ9.1 0 34).toInt = (0 : Int32).toInt := by rw [hs2]; rfl
      exact ok_some ⟨hI3, by show (-1) ≤ x2.toInt; omega, by show x2.toInt ≤ 5; omega⟩
    · refine ok_ck (by omega) (by omega) ?_
      have : 0 ≤ (σ.1 8 (Int32.toNatClampNeg x1)).toInt ∧ (σ.1 8 (Int32.toNatClampNeg x1)).toInt ≤ 4095 := hI.1 8 (Int32.toNatClampNeg x1)
      refine ok_nmI (fun v10 hv10 he4 => ?_)
      refine ok_ck (by omega) (by omega) ?_
      have := i32_rng (σ.1 28 (Int32.toNatClampNeg x3))
      refine ok_nmI (fun v11 hv11 he5 => ?_)
      have : SsM σ v10 := by rw [hv10]; exact ss_of hI (by omega) (by omega)
      have := i32_rng v11
      have : 0 ≤ (σ.1 0 9).toInt ∧ (σ.1 0 9).toInt ≤ 10 := hI.1 0 9
      refine ok_bs (sX12_tries (σ.1 0 9).toInt σ x1 v10 v11 hI (by omega) (by omega) (by omega) (by omega) (by omega) (by omega) (by first | assumption | exact KeM.rf _)) (fun r12 σ13 hr6 => ?_)
      obtain ⟨p7, p8, p9⟩ := hr6
      have p7 : IvM g σ13 := p7
      have p8 : (σ13.1 0 9).toInt = (σ.1 0 9).toInt := p8
      have p9 : FaM σ13 (Int32.toNatClampNeg 10) := p9
      have : (0 : Int32).toInt = 0 := by decide
      exact sX12_harm_52 (fX12_harm_21 n) FU σ13 x1 x2 x3 0 0 p7 (by omega) (by omega) (by omega) (by omega) (by omega) (by omega) (by omega) (by omega) (by omega) (by omega) (by omega) (by omega) (fun y0 y1 y2 y3 q0 q1 q2 q3 q4 q5 q6 q7 q8 q9 => ih y0 y1 y2 y3 q0 q1 q2 q3 q4 q5 q6 q7 q8 (by omega))

theorem sX12_harm_0 {g : Nat} (σ : S2) (x1 : Int32) (hI : IvM g σ) (p9000 : g = 0)  : Ok (fun z => IvM g z.2 ∧ (-1) ≤ z.1.toInt ∧ z.1.toInt ≤ 5) (fX12_harm_0 σ x1) := by
  have hFU : ((FU : Nat) : Int) = 100000 := rfl
  unfold fX12_harm_0
  have := i32_rng x1
  refine ok_bi (sX12_isTable σ x1 hI) (fun r15 hr1 => ?_)
  obtain ⟨p2, p3, p4⟩ := hr1
  have p2 : 0 ≤ r15.toInt := p2
  have p3 : r15.toInt ≤ 1 := p3
  have p4 : r15.toInt ≠ 0 → 0 ≤ x1.toInt ∧ x1.toInt < (σ.1 0 9).toInt := p4
  have : 0 ≤ (σ.1 0 9).toInt ∧ (σ.1 0 9).toInt ≤ 10 := hI.1 0 9
  have : (0 : Int32).toInt = 0 := by decide
  refine ok_eq (fun h5 => ?_) (fun h5 => ?_)
  · have : ((-1) : Int32).toInt = (-1) := by decide
    exact ok_some ⟨hI, by show (-1) ≤ ((-1) : Int32).toInt; omega, by show ((-1) : Int32).toInt ≤ 5; omega⟩
  · have : 0 ≤ (σ.1 0 34).toInt ∧ (σ.1 0 34).toInt ≤ 6 := hI.1 0 34
    refine ok_eq (fun h6 => ?_) (fun h6 => ?_)
    · have : ((-1) : Int32).toInt = (-1) := by decide
      exact ok_some ⟨hI, by show (-1) ≤ ((-1) : Int32).toInt; omega, by show ((-1) : Int32).toInt ≤ 5; omega⟩
    · have : ((-1) : Int32).toInt = (-1) := by decide
      exact sX12_harm_21 FU σ x1 (-1) 0 hI (by omega) (by omega) (by omega) (by omega) (by omega) (by omega) (by omega) (by omega) (by omega)

theorem sX12_harm {g : Nat} (σ : S2) (a1 : Int32) (hI : IvM g σ) (p9000 : g = 0)  : Ok (fun z => IvM g z.2 ∧ (-1) ≤ z.1.toInt ∧ z.1.toInt ≤ 5) (fX12_harm σ a1) := by
  unfold fX12_harm
  exact sX12_harm_0 σ a1 hI (by assumption)

theorem sX12_harmed_0 {g : Nat} (σ : S2) (hI : IvM g σ)   : Ok (fun z => (-1) ≤ z.toInt) (fX12_harmed_0 σ) := by
  have hFU : ((FU : Nat) : Int) = 100000 := rfl
  unfold fX12_harmed_0
  have : (-1) ≤ (σ.1 0 36).toInt ∧ (σ.1 0 36).toInt ≤ 2147483647 := hI.1 0 36
  exact ok_some (by show (-1) ≤ (σ.1 0 36).toInt; omega)

theorem sX12_harmed {g : Nat} (σ : S2) (hI : IvM g σ)   : Ok (fun z => (-1) ≤ z.toInt) (fX12_harmed σ) := by
  unfold fX12_harmed
  exact sX12_harmed_0 σ hI

theorem sX12_begins_19 {g : Nat} (c0 : Int) (σ : S2) (hI : IvM g σ) (p9000 : (σ.1 0 38).toInt = c0) (p9001 : (σ.1 0 38).toInt ≤ 900)  : Ok (fun z => IvM g z.2 ∧ (z.2.1 0 38).toInt = c0 + 1) (fX12_begins_19 σ) := by
  have hFU : ((FU : Nat) : Int) = 100000 := rfl
  unfold fX12_begins_19
  have : 0 ≤ (σ.1 0 38).toInt ∧ (σ.1 0 38).toInt ≤ 1000 := hI.1 0 38
  have : (1 : Int32).toInt = 1 := by decide
  have : (((σ.1 0 38) + 1) : Int32).toInt = ((σ.1 0 38) : Int32).toInt + (1 : Int32).toInt := i32_add (by omega) (by omega)
  refine ok_nm (fun σ1 hs1 => ?_)
  have hI2 : IvM g σ1 := by rw [hs1]; exact IvM.wI hI rfl (show 0 ≤ (((σ.1 0 38) + 1) : Int32).toInt by omega) (show (((σ.1 0 38) + 1) : Int32).toInt ≤ 1000 by omega)
  have : (σ1.1 0 38).toInt = (((σ.1 0 38) + 1) : Int32).toInt := by rw [hs1]; rfl
  exact ok_some ⟨hI2, by show (σ1.1 0 38).toInt = c0 + 1; omega⟩

theorem sX12_begins_0 {g : Nat} (c0 : Int) (σ : S2) (x1 : Int32) (hI : IvM g σ) (p9000 : 1 ≤ x1.toInt) (p9001 : x1.toInt ≤ 71) (p9002 : (σ.1 0 38).toInt = c0) (p9003 : (σ.1 0 38).toInt ≤ 900)  : Ok (fun z => IvM g z.2 ∧ (z.2.1 0 38).toInt = c0 + 1) (fX12_begins_0 σ x1) := by
  have hFU : ((FU : Nat) : Int) = 100000 := rfl
  unfold fX12_begins_0
  have : (24 : Int32).toInt = 24 := by decide
  have : 0 ≤ (σ.1 0 38).toInt ∧ (σ.1 0 38).toInt ≤ 1000 := hI.1 0 38
  refine ok_le (fun h1 => ?_) (fun h1 => ?_)
  · exact sX12_begins_19 c0 σ hI (by omega) (by omega)
  · refine ok_ck (by omega) (by omega) ?_
    refine ok_nm (fun σ2 hs2 => ?_)
    have hI3 : IvM g σ2 := by rw [hs2]; exact IvM.wI hI rfl (show 0 ≤ (x1 : Int32).toInt by omega) (show (x1 : Int32).toInt ≤ 71 by omega)
    have : (σ2.1 0 38).toInt = (σ.1 0 38).toInt := by rw [hs2]; rfl
    have : 0 ≤ (σ2.1 0 38).toInt ∧ (σ2.1 0 38).toInt ≤ 1000 := hI3.1 0 38
    exact sX12_begins_19 c0 σ2 hI3 (by omega) (by omega)

theorem sX12_begins {g : Nat} (c0 : Int) (σ : S2) (a1 : Int32) (hI : IvM g σ) (p9000 : 1 ≤ a1.toInt) (p9001 : a1.toInt ≤ 71) (p9002 : (σ.1 0 38).toInt = c0) (p9003 : (σ.1 0 38).toInt ≤ 900)  : Ok (fun z => IvM g z.2 ∧ (z.2.1 0 38).toInt = c0 + 1) (fX12_begins σ a1) := by
  unfold fX12_begins
  exact sX12_begins_0 c0 σ a1 hI (by assumption) (by assumption) (by assumption) (by assumption)

theorem sX12_aboveOf_0 {g : Nat} (σ : S2) (x0 : Int32) (hI : IvM g σ) (p9000 : 1 ≤ x0.toInt) (p9001 : x0.toInt ≤ 6)  : Ok (fun z => 0 ≤ z.toInt ∧ z.toInt ≤ 1 ∧ (x0.toInt = 6 → z.toInt = 1) ∧ (x0.toInt ≠ 6 → z.toInt = 0)) (fX12_aboveOf_0 σ x0) := by
  have hFU : ((FU : Nat) : Int) = 100000 := rfl
  unfold fX12_aboveOf_0
  have : (6 : Int32).toInt = 6 := by decide
  refine ok_eq (fun h1 => ?_) (fun h1 => ?_)
  · have : (1 : Int32).toInt = 1 := by decide
    exact ok_some ⟨by show 0 ≤ (1 : Int32).toInt; omega, by show (1 : Int32).toInt ≤ 1; omega, by show x0.toInt = 6 → (1 : Int32).toInt = 1; omega, by show x0.toInt ≠ 6 → (1 : Int32).toInt = 0; omega⟩
  · have : (0 : Int32).toInt = 0 := by decide
    exact ok_some ⟨by show 0 ≤ (0 : Int32).toInt; omega, by show (0 : Int32).toInt ≤ 1; omega, by show x0.toInt = 6 → (0 : Int32).toInt = 1; omega, by show x0.toInt ≠ 6 → (0 : Int32).toInt = 0; omega⟩

theorem sX12_aboveOf {g : Nat} (σ : S2) (a0 : Int32) (hI : IvM g σ) (p9000 : 1 ≤ a0.toInt) (p9001 : a0.toInt ≤ 6)  : Ok (fun z => 0 ≤ z.toInt ∧ z.toInt ≤ 1 ∧ (a0.toInt = 6 → z.toInt = 1) ∧ (a0.toInt ≠ 6 → z.toInt = 0)) (fX12_aboveOf σ a0) := by
  unfold fX12_aboveOf
  exact sX12_aboveOf_0 σ a0 hI (by assumption) (by assumption)

theorem sX12_findsFrom_0 {g : Nat} (r : Int) (qX12_findsFrom : S2 → Int32 → Int32 → Int32 → Option (Int32 × S2)) (hqX12_findsFrom : ∀ (σ : S2) (a1 : Int32) (a2 : Int32) (a3 : Int32), IvM g σ → 0 ≤ a1.toInt → a1.toInt ≤ 11 → 0 ≤ a2.toInt → a2.toInt ≤ 6 → 0 ≤ (r - 1) → (r - 1) ≤ 2 → (a2.toInt = 0 ∨ 1 ≤ (r - 1)) → (a2.toInt ≤ 5 ∨ 2 ≤ (r - 1)) → (σ.1 0 38).toInt + (r - 1) ≤ 502 → Ok (fun z => IvM g z.2 ∧ (z.2.1 0 38).toInt ≤ (σ.1 0 38).toInt + 1 * ((r - 1) + 1)) (qX12_findsFrom σ a1 a2 a3)) (σ : S2) (x1 : Int32) (x2 : Int32) (x3 : Int32) (hI : IvM g σ) (p9000 : 0 ≤ x1.toInt) (p9001 : x1.toInt ≤ 11) (p9002 : 0 ≤ x2.toInt) (p9003 : x2.toInt ≤ 6) (p9004 : 0 ≤ r) (p9005 : r ≤ 2) (p9006 : (x2.toInt = 0 ∨ 1 ≤ r)) (p9007 : (x2.toInt ≤ 5 ∨ 2 ≤ r)) (p9008 : (σ.1 0 38).toInt + r ≤ 502)  : Ok (fun z => IvM g z.2 ∧ (z.2.1 0 38).toInt ≤ (σ.1 0 38).toInt + 1 * (r + 1)) (fX12_findsFrom_0 qX12_findsFrom σ x1 x2 x3) := by
  have hFU : ((FU : Nat) : Int) = 100000 := rfl
  unfold fX12_findsFrom_0
  have : (0 : Int32).toInt = 0 := by decide
  refine ok_eq (fun h1 => ?_) (fun h1 => ?_)
  · have : (1 : Int32).toInt = 1 := by decide
    have : 0 ≤ (σ.1 0 38).toInt ∧ (σ.1 0 38).toInt ≤ 1000 := hI.1 0 38
    refine ok_bs (sX12_begins (σ.1 0 38).toInt σ 1 hI (by omega) (by omega) (by omega) (by omega)) (fun r2 σ3 hr2 => ?_)
    obtain ⟨p3, p4⟩ := hr2
    have p3 : IvM g σ3 := p3
    have p4 : (σ3.1 0 38).toInt = (σ.1 0 38).toInt + 1 := p4
    have := i32_rng x3
    have := i32_rng (x3 + x1)
    exact ok_some ⟨p3, by show (σ3.1 0 38).toInt ≤ (σ.1 0 38).toInt + 1 * (r + 1); omega⟩
  · have : (1 : Int32).toInt = 1 := by decide
    refine ok_eq (fun h5 => ?_) (fun h5 => ?_)
    · have : (20 : Int32).toInt = 20 := by decide
      have : 0 ≤ (σ.1 0 38).toInt ∧ (σ.1 0 38).toInt ≤ 1000 := hI.1 0 38
      refine ok_bs (sX12_begins (σ.1 0 38).toInt σ 20 hI (by omega) (by omega) (by omega) (by omega)) (fun r6 σ7 hr6 => ?_)
      obtain ⟨p7, p8⟩ := hr6
      have p7 : IvM g σ7 := p7
      have p8 : (σ7.1 0 38).toInt = (σ.1 0 38).toInt + 1 := p8
      have := i32_rng x3
      refine ok_bs (hqX12_findsFrom σ7 x1 0 x3 p7 (by omega) (by omega) (by omega) (by omega) (by omega) (by omega) (by omega) (by omega) (by omega)) (fun r9 σ10 hr9 => ?_)
      obtain ⟨p10, p11⟩ := hr9
      have p10 : IvM g σ10 := p10
      have p11 : (σ10.1 0 38).toInt ≤ (σ7.1 0 38).toInt + 1 * ((r - 1) + 1) := p11
      refine ok_ck (by omega) (by omega) ?_
      have : 0 ≤ (σ10.1 4 (Int32.toNatClampNeg x1)).toInt ∧ (σ10.1 4 (Int32.toNatClampNeg x1)).toInt ≤ 8 := p10.1 4 (Int32.toNatClampNeg x1)
      refine ok_nmI (fun v12 hv12 he12 => ?_)
      have := i32_rng r9
      have := i32_rng (r9 + v12)
      exact ok_some ⟨p10, by show (σ10.1 0 38).toInt ≤ (σ.1 0 38).toInt + 1 * (r + 1); omega⟩
    · have : (2 : Int32).toInt = 2 := by decide
      refine ok_eq (fun h13 => ?_) (fun h13 => ?_)
      · refine ok_bi (sX12_aboveOf σ x2 hI (by omega) (by omega)) (fun r14 hr14 => ?_)
        obtain ⟨p15, p16, p17, p18⟩ := hr14
        have p15 : 0 ≤ r14.toInt := p15
        have p16 : r14.toInt ≤ 1 := p16
        have p17 : x2.toInt = 6 → r14.toInt = 1 := p17
        have p18 : x2.toInt ≠ 6 → r14.toInt = 0 := p18
        have := i32_rng x3
        refine ok_bs (hqX12_findsFrom σ x1 r14 x3 hI (by omega) (by omega) (by omega) (by omega) (by omega) (by omega) (by omega) (by omega) (by omega)) (fun r16 σ17 hr19 => ?_)
        obtain ⟨p20, p21⟩ := hr19
        have p20 : IvM g σ17 := p20
        have p21 : (σ17.1 0 38).toInt ≤ (σ.1 0 38).toInt + 1 * ((r - 1) + 1) := p21
        have := i32_rng r16
        exact ok_some ⟨p20, by show (σ17.1 0 38).toInt ≤ (σ.1 0 38).toInt + 1 * (r + 1); omega⟩
      · have : (3 : Int32).toInt = 3 := by decide
        refine ok_eq (fun h22 => ?_) (fun h22 => ?_)
        · refine ok_bi (sX12_aboveOf σ x2 hI (by omega) (by omega)) (fun r20 hr23 => ?_)
          obtain ⟨p24, p25, p26, p27⟩ := hr23
          have p24 : 0 ≤ r20.toInt := p24
          have p25 : r20.toInt ≤ 1 := p25
          have p26 : x2.toInt = 6 → r20.toInt = 1 := p26
          have p27 : x2.toInt ≠ 6 → r20.toInt = 0 := p27
          have := i32_rng x3
          refine ok_bs (hqX12_findsFrom σ x1 r20 x3 hI (by omega) (by omega) (by omega) (by omega) (by omega) (by omega) (by omega) (by omega) (by omega)) (fun r22 σ23 hr28 => ?_)
          obtain ⟨p29, p30⟩ := hr28
          have p29 : IvM g σ23 := p29
          have p30 : (σ23.1 0 38).toInt ≤ (σ.1 0 38).toInt + 1 * ((r - 1) + 1) := p30
          have := i32_rng r22
          exact ok_some ⟨p29, by show (σ23.1 0 38).toInt ≤ (σ.1 0 38).toInt + 1 * (r + 1); omega⟩
        · have : (4 : Int32).toInt = 4 := by decide
          refine ok_eq (fun h31 => ?_) (fun h31 => ?_)
          · refine ok_bi (sX12_aboveOf σ x2 hI (by omega) (by omega)) (fun r26 hr32 => ?_)
            obtain ⟨p33, p34, p35, p36⟩ := hr32
            have p33 : 0 ≤ r26.toInt := p33
            have p34 : r26.toInt ≤ 1 := p34
            have p35 : x2.toInt = 6 → r26.toInt = 1 := p35
            have p36 : x2.toInt ≠ 6 → r26.toInt = 0 := p36
            have := i32_rng x3
            refine ok_bs (hqX12_findsFrom σ x1 r26 x3 hI (by omega) (by omega) (by omega) (by omega) (by omega) (by omega) (by omega) (by omega) (by omega)) (fun r28 σ29 hr37 => ?_)
            obtain ⟨p38, p39⟩ := hr37
            have p38 : IvM g σ29 := p38
            have p39 : (σ29.1 0 38).toInt ≤ (σ.1 0 38).toInt + 1 * ((r - 1) + 1) := p39
            have := i32_rng r28
            exact ok_some ⟨p38, by show (σ29.1 0 38).toInt ≤ (σ.1 0 38).toInt + 1 * (r + 1); omega⟩
          · have : (5 : Int32).toInt = 5 := by decide
            refine ok_eq (fun h40 => ?_) (fun h40 => ?_)
            · have : (60 : Int32).toInt = 60 := by decide
              have : 0 ≤ (σ.1 0 38).toInt ∧ (σ.1 0 38).toInt ≤ 1000 := hI.1 0 38
              refine ok_bs (sX12_begins (σ.1 0 38).toInt σ 60 hI (by omega) (by omega) (by omega) (by omega)) (fun r32 σ33 hr41 => ?_)
              obtain ⟨p42, p43⟩ := hr41
              have p42 : IvM g σ33 := p42
              have p43 : (σ33.1 0 38).toInt = (σ.1 0 38).toInt + 1 := p43
              have := i32_rng x3
              have := i32_rng (x3 + 1)
              refine ok_bs (hqX12_findsFrom σ33 x1 0 (x3 + 1) p42 (by omega) (by omega) (by omega) (by omega) (by omega) (by omega) (by omega) (by omega) (by omega)) (fun r35 σ36 hr44 => ?_)
              obtain ⟨p45, p46⟩ := hr44
              have p45 : IvM g σ36 := p45
              have p46 : (σ36.1 0 38).toInt ≤ (σ33.1 0 38).toInt + 1 * ((r - 1) + 1) := p46
              have := i32_rng r35
              exact ok_some ⟨p45, by show (σ36.1 0 38).toInt ≤ (σ.1 0 38).toInt + 1 * (r + 1); omega⟩
            · have : (6 : Int32).toInt = 6 := by decide
              refine ok_eq (fun h47 => ?_) (fun h47 => ?_)
              · have : (71 : Int32).toInt = 71 := by decide
                have : 0 ≤ (σ.1 0 38).toInt ∧ (σ.1 0 38).toInt ≤ 1000 := hI.1 0 38
                refine ok_bs (sX12_begins (σ.1 0 38).toInt σ 71 hI (by omega) (by omega) (by omega) (by omega)) (fun r39 σ40 hr48 => ?_)
                obtain ⟨p49, p50⟩ := hr48
                have p49 : IvM g σ40 := p49
                have p50 : (σ40.1 0 38).toInt = (σ.1 0 38).toInt + 1 := p50
                have := i32_rng x3
                refine ok_bs (hqX12_findsFrom σ40 x1 1 x3 p49 (by omega) (by omega) (by omega) (by omega) (by omega) (by omega) (by omega) (by omega) (by omega)) (fun r42 σ43 hr51 => ?_)
                obtain ⟨p52, p53⟩ := hr51
                have p52 : IvM g σ43 := p52
                have p53 : (σ43.1 0 38).toInt ≤ (σ40.1 0 38).toInt + 1 * ((r - 1) + 1) := p53
                have := i32_rng r42
                have := i32_rng (r42 * 2)
                exact ok_some ⟨p52, by show (σ43.1 0 38).toInt ≤ (σ.1 0 38).toInt + 1 * (r + 1); omega⟩
              · exfalso; omega

theorem sGX12_findsFrom {g : Nat} : ∀ d : Nat, (∀ (r : Int) (σ : S2) (a1 : Int32) (a2 : Int32) (a3 : Int32), r < (d : Int) → IvM g σ → 0 ≤ a1.toInt → a1.toInt ≤ 11 → 0 ≤ a2.toInt → a2.toInt ≤ 6 → 0 ≤ r → r ≤ 2 → (a2.toInt = 0 ∨ 1 ≤ r) → (a2.toInt ≤ 5 ∨ 2 ≤ r) → (σ.1 0 38).toInt + r ≤ 502 → Ok (fun z => IvM g z.2 ∧ (z.2.1 0 38).toInt ≤ (σ.1 0 38).toInt + 1 * (r + 1)) (GX12_findsFrom d 0 σ a1 a2 a3)) := by
  intro d
  induction d with
  | zero => exact (fun r σ a1 a2 a3 hd hI p0 p1 p2 p3 p4 p5 p6 p7 p8 => by exfalso; omega)
  | succ d ih =>
    exact (fun r σ a1 a2 a3 hd hI p0 p1 p2 p3 p4 p5 p6 p7 p8 => sX12_findsFrom_0  r (GX12_findsFrom d 0) (fun σ a1 a2 a3 hI p0 p1 p2 p3 p4 p5 p6 p7 p8 => ih (r - 1) σ a1 a2 a3 (by omega) hI p0 p1 p2 p3 p4 p5 p6 p7 p8) σ a1 a2 a3 hI p0 p1 p2 p3 p4 p5 p6 p7 p8)
theorem sX12_findsFrom {g : Nat}  (σ : S2) (a1 : Int32) (a2 : Int32) (a3 : Int32) (hI : IvM g σ) (p9000 : 0 ≤ a1.toInt) (p9001 : a1.toInt ≤ 11) (p9002 : 0 ≤ a2.toInt) (p9003 : a2.toInt ≤ 6) (p9004 : (σ.1 0 38).toInt ≤ 500) : Ok (fun z => IvM g z.2 ∧ (z.2.1 0 38).toInt ≤ (σ.1 0 38).toInt + 1 * (2 + 1)) (fX12_findsFrom σ a1 a2 a3) := by
  exact (sGX12_findsFrom 24) 2  σ a1 a2 a3 (by decide) hI p9000 p9001 p9002 p9003 (by omega) (by omega) (by omega) (by omega) (by omega)

theorem sX12_movesFrom_0 {g : Nat} (r : Int) (qX12_movesFrom : S2 → Int32 → Int32 → Int32 → Option (Int32 × S2)) (hqX12_movesFrom : ∀ (σ : S2) (a1 : Int32) (a2 : Int32) (a3 : Int32), IvM g σ → 0 ≤ a1.toInt → a1.toInt ≤ 11 → 0 ≤ a2.toInt → a2.toInt ≤ 6 → 0 ≤ (r - 1) → (r - 1) ≤ 2 → (a2.toInt = 0 ∨ 1 ≤ (r - 1)) → (a2.toInt ≤ 5 ∨ 2 ≤ (r - 1)) → (σ.1 0 38).toInt + (r - 1) ≤ 402 → Ok (fun z => IvM g z.2 ∧ (z.2.1 0 38).toInt ≤ (σ.1 0 38).toInt + 5 * ((r - 1) + 1)) (qX12_movesFrom σ a1 a2 a3)) (σ : S2) (x1 : Int32) (x2 : Int32) (x3 : Int32) (hI : IvM g σ) (p9000 : 0 ≤ x1.toInt) (p9001 : x1.toInt ≤ 11) (p9002 : 0 ≤ x2.toInt) (p9003 : x2.toInt ≤ 6) (p9004 : 0 ≤ r) (p9005 : r ≤ 2) (p9006 : (x2.toInt = 0 ∨ 1 ≤ r)) (p9007 : (x2.toInt ≤ 5 ∨ 2 ≤ r)) (p9008 : (σ.1 0 38).toInt + r ≤ 402)  : Ok (fun z => IvM g z.2 ∧ (z.2.1 0 38).toInt ≤ (σ.1 0 38).toInt + 5 * (r + 1)) (fX12_movesFrom_0 qX12_movesFrom σ x1 x2 x3) := by
  have hFU : ((FU : Nat) : Int) = 100000 := rfl
  unfold fX12_movesFrom_0
  have : (0 : Int32).toInt = 0 := by decide
  refine ok_eq (fun h1 => ?_) (fun h1 => ?_)
  · have : (11 : Int32).toInt = 11 := by decide
    have : 0 ≤ (σ.1 0 38).toInt ∧ (σ.1 0 38).toInt ≤ 1000 := hI.1 0 38
    refine ok_bs (sX12_begins (σ.1 0 38).toInt σ 11 hI (by omega) (by omega) (by omega) (by omega)) (fun r2 σ3 hr2 => ?_)
    obtain ⟨p3, p4⟩ := hr2
    have p3 : IvM g σ3 := p3
    have p4 : (σ3.1 0 38).toInt = (σ.1 0 38).toInt + 1 := p4
    have := i32_rng x3
    have := i32_rng (x3 ^^^ x1)
    exact ok_some ⟨p3, by show (σ3.1 0 38).toInt ≤ (σ.1 0 38).toInt + 5 * (r + 1); omega⟩
  · have : (2 : Int32).toInt = 2 := by decide
    refine ok_eq (fun h5 => ?_) (fun h5 => ?_)
    · have : (30 : Int32).toInt = 30 := by decide
      have : 0 ≤ (σ.1 0 38).toInt ∧ (σ.1 0 38).toInt ≤ 1000 := hI.1 0 38
      refine ok_bs (sX12_begins (σ.1 0 38).toInt σ 30 hI (by omega) (by omega) (by omega) (by omega)) (fun r6 σ7 hr6 => ?_)
      obtain ⟨p7, p8⟩ := hr6
      have p7 : IvM g σ7 := p7
      have p8 : (σ7.1 0 38).toInt = (σ.1 0 38).toInt + 1 := p8
      have := i32_rng x3
      refine ok_bs (hqX12_movesFrom σ7 x1 0 x3 p7 (by omega) (by omega) (by omega) (by omega) (by omega) (by omega) (by omega) (by omega) (by omega)) (fun r9 σ10 hr9 => ?_)
      obtain ⟨p10, p11⟩ := hr9
      have p10 : IvM g σ10 := p10
      have p11 : (σ10.1 0 38).toInt ≤ (σ7.1 0 38).toInt + 5 * ((r - 1) + 1) := p11
      have := i32_rng r9
      have : (3 : Int32).toInt = 3 := by decide
      have := i32_rng (r9 * 3)
      exact ok_some ⟨p10, by show (σ10.1 0 38).toInt ≤ (σ.1 0 38).toInt + 5 * (r + 1); omega⟩
    · have : (5 : Int32).toInt = 5 := by decide
      refine ok_eq (fun h12 => ?_) (fun h12 => ?_)
      · have : (61 : Int32).toInt = 61 := by decide
        have : 0 ≤ (σ.1 0 38).toInt ∧ (σ.1 0 38).toInt ≤ 1000 := hI.1 0 38
        refine ok_bs (sX12_begins (σ.1 0 38).toInt σ 61 hI (by omega) (by omega) (by omega) (by omega)) (fun r13 σ14 hr13 => ?_)
        obtain ⟨p14, p15⟩ := hr13
        have p14 : IvM g σ14 := p14
        have p15 : (σ14.1 0 38).toInt = (σ.1 0 38).toInt + 1 := p15
        have := i32_rng x3
        refine ok_bs (hqX12_movesFrom σ14 x1 0 x3 p14 (by omega) (by omega) (by omega) (by omega) (by omega) (by omega) (by omega) (by omega) (by omega)) (fun r16 σ17 hr16 => ?_)
        obtain ⟨p17, p18⟩ := hr16
        have p17 : IvM g σ17 := p17
        have p18 : (σ17.1 0 38).toInt ≤ (σ14.1 0 38).toInt + 5 * ((r - 1) + 1) := p18
        refine ok_ck (by omega) (by omega) ?_
        have : 0 ≤ (σ17.1 5 (Int32.toNatClampNeg x1)).toInt ∧ (σ17.1 5 (Int32.toNatClampNeg x1)).toInt ≤ 6 := p17.1 5 (Int32.toNatClampNeg x1)
        refine ok_nmI (fun v19 hv19 he19 => ?_)
        refine ok_bs (sX12_findsFrom σ17 x1 v19 2 p17 (by omega) (by omega) (by omega) (by omega) (by omega)) (fun r20 σ21 hr20 => ?_)
        obtain ⟨p21, p22⟩ := hr20
        have p21 : IvM g σ21 := p21
        have p22 : (σ21.1 0 38).toInt ≤ (σ17.1 0 38).toInt + 1 * (2 + 1) := p22
        have := i32_rng r16
        have := i32_rng r20
        have := i32_rng (r16 - r20)
        exact ok_some ⟨p21, by show (σ21.1 0 38).toInt ≤ (σ.1 0 38).toInt + 5 * (r + 1); omega⟩
      · refine ok_bi (sX12_aboveOf σ x2 hI (by omega) (by omega)) (fun r23 hr23 => ?_)
        obtain ⟨p24, p25, p26, p27⟩ := hr23
        have p24 : 0 ≤ r23.toInt := p24
        have p25 : r23.toInt ≤ 1 := p25
        have p26 : x2.toInt = 6 → r23.toInt = 1 := p26
        have p27 : x2.toInt ≠ 6 → r23.toInt = 0 := p27
        have := i32_rng x3
        refine ok_bs (hqX12_movesFrom σ x1 r23 x3 hI (by omega) (by omega) (by omega) (by omega) (by omega) (by omega) (by omega) (by omega) (by omega)) (fun r25 σ26 hr28 => ?_)
        obtain ⟨p29, p30⟩ := hr28
        have p29 : IvM g σ26 := p29
        have p30 : (σ26.1 0 38).toInt ≤ (σ.1 0 38).toInt + 5 * ((r - 1) + 1) := p30
        have := i32_rng r25
        exact ok_some ⟨p29, by show (σ26.1 0 38).toInt ≤ (σ.1 0 38).toInt + 5 * (r + 1); omega⟩

theorem sGX12_movesFrom {g : Nat} : ∀ d : Nat, (∀ (r : Int) (σ : S2) (a1 : Int32) (a2 : Int32) (a3 : Int32), r < (d : Int) → IvM g σ → 0 ≤ a1.toInt → a1.toInt ≤ 11 → 0 ≤ a2.toInt → a2.toInt ≤ 6 → 0 ≤ r → r ≤ 2 → (a2.toInt = 0 ∨ 1 ≤ r) → (a2.toInt ≤ 5 ∨ 2 ≤ r) → (σ.1 0 38).toInt + r ≤ 402 → Ok (fun z => IvM g z.2 ∧ (z.2.1 0 38).toInt ≤ (σ.1 0 38).toInt + 5 * (r + 1)) (GX12_movesFrom d 0 σ a1 a2 a3)) := by
  intro d
  induction d with
  | zero => exact (fun r σ a1 a2 a3 hd hI p0 p1 p2 p3 p4 p5 p6 p7 p8 => by exfalso; omega)
  | succ d ih =>
    exact (fun r σ a1 a2 a3 hd hI p0 p1 p2 p3 p4 p5 p6 p7 p8 => sX12_movesFrom_0  r (GX12_movesFrom d 0) (fun σ a1 a2 a3 hI p0 p1 p2 p3 p4 p5 p6 p7 p8 => ih (r - 1) σ a1 a2 a3 (by omega) hI p0 p1 p2 p3 p4 p5 p6 p7 p8) σ a1 a2 a3 hI p0 p1 p2 p3 p4 p5 p6 p7 p8)
theorem sX12_movesFrom {g : Nat}  (σ : S2) (a1 : Int32) (a2 : Int32) (a3 : Int32) (hI : IvM g σ) (p9000 : 0 ≤ a1.toInt) (p9001 : a1.toInt ≤ 11) (p9002 : 0 ≤ a2.toInt) (p9003 : a2.toInt ≤ 6) (p9004 : (σ.1 0 38).toInt ≤ 400) : Ok (fun z => IvM g z.2 ∧ (z.2.1 0 38).toInt ≤ (σ.1 0 38).toInt + 5 * (2 + 1)) (fX12_movesFrom σ a1 a2 a3) := by
  exact (sGX12_movesFrom 24) 2  σ a1 a2 a3 (by decide) hI p9000 p9001 p9002 p9003 (by omega) (by omega) (by omega) (by omega) (by omega)

theorem sX12_keepsFrom_0 {g : Nat} (r : Int) (qX12_keepsFrom : S2 → Int32 → Int32 → Int32 → Option (Int32 × S2)) (hqX12_keepsFrom : ∀ (σ : S2) (a1 : Int32) (a2 : Int32) (a3 : Int32), IvM g σ → 0 ≤ a1.toInt → a1.toInt ≤ 11 → 0 ≤ a2.toInt → a2.toInt ≤ 6 → 0 ≤ (r - 1) → (r - 1) ≤ 2 → (a2.toInt = 0 ∨ 1 ≤ (r - 1)) → (a2.toInt ≤ 5 ∨ 2 ≤ (r - 1)) → (σ.1 0 38).toInt + (r - 1) ≤ 302 → Ok (fun z => IvM g z.2 ∧ (z.2.1 0 38).toInt ≤ (σ.1 0 38).toInt + 16 * ((r - 1) + 1)) (qX12_keepsFrom σ a1 a2 a3)) (σ : S2) (x1 : Int32) (x2 : Int32) (x3 : Int32) (hI : IvM g σ) (p9000 : 0 ≤ x1.toInt) (p9001 : x1.toInt ≤ 11) (p9002 : 0 ≤ x2.toInt) (p9003 : x2.toInt ≤ 6) (p9004 : 0 ≤ r) (p9005 : r ≤ 2) (p9006 : (x2.toInt = 0 ∨ 1 ≤ r)) (p9007 : (x2.toInt ≤ 5 ∨ 2 ≤ r)) (p9008 : (σ.1 0 38).toInt + r ≤ 302)  : Ok (fun z => IvM g z.2 ∧ (z.2.1 0 38).toInt ≤ (σ.1 0 38).toInt + 16 * (r + 1)) (fX12_keepsFrom_0 qX12_keepsFrom σ x1 x2 x3) := by
  have hFU : ((FU : Nat) : Int) = 100000 := rfl
  unfold fX12_keepsFrom_0
  have : (0 : Int32).toInt = 0 := by decide
  refine ok_eq (fun h1 => ?_) (fun h1 => ?_)
  · have : (10 : Int32).toInt = 10 := by decide
    have : 0 ≤ (σ.1 0 38).toInt ∧ (σ.1 0 38).toInt ≤ 1000 := hI.1 0 38
    refine ok_bs (sX12_begins (σ.1 0 38).toInt σ 10 hI (by omega) (by omega) (by omega) (by omega)) (fun r2 σ3 hr2 => ?_)
    obtain ⟨p3, p4⟩ := hr2
    have p3 : IvM g σ3 := p3
    have p4 : (σ3.1 0 38).toInt = (σ.1 0 38).toInt + 1 := p4
    refine ok_ck (by omega) (by omega) ?_
    have : 0 ≤ (σ3.1 5 (Int32.toNatClampNeg x1)).toInt ∧ (σ3.1 5 (Int32.toNatClampNeg x1)).toInt ≤ 6 := p3.1 5 (Int32.toNatClampNeg x1)
    refine ok_nmI (fun v5 hv5 he5 => ?_)
    have := i32_rng x3
    refine ok_bs (sX12_findsFrom σ3 x1 v5 x3 p3 (by omega) (by omega) (by omega) (by omega) (by omega)) (fun r6 σ7 hr6 => ?_)
    obtain ⟨p7, p8⟩ := hr6
    have p7 : IvM g σ7 := p7
    have p8 : (σ7.1 0 38).toInt ≤ (σ3.1 0 38).toInt + 1 * (2 + 1) := p8
    have := i32_rng r6
    have : (2 : Int32).toInt = 2 := by decide
    have := i32_rng (r6 * 2)
    exact ok_some ⟨p7, by show (σ7.1 0 38).toInt ≤ (σ.1 0 38).toInt + 16 * (r + 1); omega⟩
  · have : (3 : Int32).toInt = 3 := by decide
    refine ok_eq (fun h9 => ?_) (fun h9 => ?_)
    · have : (40 : Int32).toInt = 40 := by decide
      have : 0 ≤ (σ.1 0 38).toInt ∧ (σ.1 0 38).toInt ≤ 1000 := hI.1 0 38
      refine ok_bs (sX12_begins (σ.1 0 38).toInt σ 40 hI (by omega) (by omega) (by omega) (by omega)) (fun r10 σ11 hr10 => ?_)
      obtain ⟨p11, p12⟩ := hr10
      have p11 : IvM g σ11 := p11
      have p12 : (σ11.1 0 38).toInt = (σ.1 0 38).toInt + 1 := p12
      have := i32_rng x3
      refine ok_bs (hqX12_keepsFrom σ11 x1 0 x3 p11 (by omega) (by omega) (by omega) (by omega) (by omega) (by omega) (by omega) (by omega) (by omega)) (fun r13 σ14 hr13 => ?_)
      obtain ⟨p14, p15⟩ := hr13
      have p14 : IvM g σ14 := p14
      have p15 : (σ14.1 0 38).toInt ≤ (σ11.1 0 38).toInt + 16 * ((r - 1) + 1) := p15
      have := i32_rng r13
      have := i32_rng (-r13)
      exact ok_some ⟨p14, by show (σ14.1 0 38).toInt ≤ (σ.1 0 38).toInt + 16 * (r + 1); omega⟩
    · have : (6 : Int32).toInt = 6 := by decide
      refine ok_eq (fun h16 => ?_) (fun h16 => ?_)
      · have : (70 : Int32).toInt = 70 := by decide
        have : 0 ≤ (σ.1 0 38).toInt ∧ (σ.1 0 38).toInt ≤ 1000 := hI.1 0 38
        refine ok_bs (sX12_begins (σ.1 0 38).toInt σ 70 hI (by omega) (by omega) (by omega) (by omega)) (fun r17 σ18 hr17 => ?_)
        obtain ⟨p18, p19⟩ := hr17
        have p18 : IvM g σ18 := p18
        have p19 : (σ18.1 0 38).toInt = (σ.1 0 38).toInt + 1 := p19
        have : (1 : Int32).toInt = 1 := by decide
        have := i32_rng x3
        refine ok_bs (hqX12_keepsFrom σ18 x1 1 x3 p18 (by omega) (by omega) (by omega) (by omega) (by omega) (by omega) (by omega) (by omega) (by omega)) (fun r20 σ21 hr20 => ?_)
        obtain ⟨p21, p22⟩ := hr20
        have p21 : IvM g σ21 := p21
        have p22 : (σ21.1 0 38).toInt ≤ (σ18.1 0 38).toInt + 16 * ((r - 1) + 1) := p22
        refine ok_bs (sX12_movesFrom σ21 x1 1 x3 p21 (by omega) (by omega) (by omega) (by omega) (by omega)) (fun r23 σ24 hr23 => ?_)
        obtain ⟨p24, p25⟩ := hr23
        have p24 : IvM g σ24 := p24
        have p25 : (σ24.1 0 38).toInt ≤ (σ21.1 0 38).toInt + 5 * (2 + 1) := p25
        have := i32_rng r20
        have := i32_rng r23
        have := i32_rng (r20 + r23)
        exact ok_some ⟨p24, by show (σ24.1 0 38).toInt ≤ (σ.1 0 38).toInt + 16 * (r + 1); omega⟩
      · refine ok_bi (sX12_aboveOf σ x2 hI (by omega) (by omega)) (fun r26 hr26 => ?_)
        obtain ⟨p27, p28, p29, p30⟩ := hr26
        have p27 : 0 ≤ r26.toInt := p27
        have p28 : r26.toInt ≤ 1 := p28
        have p29 : x2.toInt = 6 → r26.toInt = 1 := p29
        have p30 : x2.toInt ≠ 6 → r26.toInt = 0 := p30
        have := i32_rng x3
        refine ok_bs (hqX12_keepsFrom σ x1 r26 x3 hI (by omega) (by omega) (by omega) (by omega) (by omega) (by omega) (by omega) (by omega) (by omega)) (fun r28 σ29 hr31 => ?_)
        obtain ⟨p32, p33⟩ := hr31
        have p32 : IvM g σ29 := p32
        have p33 : (σ29.1 0 38).toInt ≤ (σ.1 0 38).toInt + 16 * ((r - 1) + 1) := p33
        have := i32_rng r28
        exact ok_some ⟨p32, by show (σ29.1 0 38).toInt ≤ (σ.1 0 38).toInt + 16 * (r + 1); omega⟩

theorem sGX12_keepsFrom {g : Nat} : ∀ d : Nat, (∀ (r : Int) (σ : S2) (a1 : Int32) (a2 : Int32) (a3 : Int32), r < (d : Int) → IvM g σ → 0 ≤ a1.toInt → a1.toInt ≤ 11 → 0 ≤ a2.toInt → a2.toInt ≤ 6 → 0 ≤ r → r ≤ 2 → (a2.toInt = 0 ∨ 1 ≤ r) → (a2.toInt ≤ 5 ∨ 2 ≤ r) → (σ.1 0 38).toInt + r ≤ 302 → Ok (fun z => IvM g z.2 ∧ (z.2.1 0 38).toInt ≤ (σ.1 0 38).toInt + 16 * (r + 1)) (GX12_keepsFrom d 0 σ a1 a2 a3)) := by
  intro d
  induction d with
  | zero => exact (fun r σ a1 a2 a3 hd hI p0 p1 p2 p3 p4 p5 p6 p7 p8 => by exfalso; omega)
  | succ d ih =>
    exact (fun r σ a1 a2 a3 hd hI p0 p1 p2 p3 p4 p5 p6 p7 p8 => sX12_keepsFrom_0  r (GX12_keepsFrom d 0) (fun σ a1 a2 a3 hI p0 p1 p2 p3 p4 p5 p6 p7 p8 => ih (r - 1) σ a1 a2 a3 (by omega) hI p0 p1 p2 p3 p4 p5 p6 p7 p8) σ a1 a2 a3 hI p0 p1 p2 p3 p4 p5 p6 p7 p8)
theorem sX12_keepsFrom {g : Nat}  (σ : S2) (a1 : Int32) (a2 : Int32) (a3 : Int32) (hI : IvM g σ) (p9000 : 0 ≤ a1.toInt) (p9001 : a1.toInt ≤ 11) (p9002 : 0 ≤ a2.toInt) (p9003 : a2.toInt ≤ 6) (p9004 : (σ.1 0 38).toInt ≤ 300) : Ok (fun z => IvM g z.2 ∧ (z.2.1 0 38).toInt ≤ (σ.1 0 38).toInt + 16 * (2 + 1)) (fX12_keepsFrom σ a1 a2 a3) := by
  exact (sGX12_keepsFrom 24) 2  σ a1 a2 a3 (by decide) hI p9000 p9001 p9002 p9003 (by omega) (by omega) (by omega) (by omega) (by omega)

theorem sX12_tellsFrom_0 {g : Nat} (r : Int) (qX12_tellsFrom : S2 → Int32 → Int32 → Int32 → Option (Int32 × S2)) (hqX12_tellsFrom : ∀ (σ : S2) (a1 : Int32) (a2 : Int32) (a3 : Int32), IvM g σ → 0 ≤ a1.toInt → a1.toInt ≤ 11 → 0 ≤ a2.toInt → a2.toInt ≤ 6 → 0 ≤ (r - 1) → (r - 1) ≤ 2 → (a2.toInt = 0 ∨ 1 ≤ (r - 1)) → (a2.toInt ≤ 5 ∨ 2 ≤ (r - 1)) → (σ.1 0 38).toInt + (r - 1) ≤ 202 → Ok (fun z => IvM g z.2 ∧ (z.2.1 0 38).toInt ≤ (σ.1 0 38).toInt + 64 * ((r - 1) + 1)) (qX12_tellsFrom σ a1 a2 a3)) (σ : S2) (x1 : Int32) (x2 : Int32) (x3 : Int32) (hI : IvM g σ) (p9000 : 0 ≤ x1.toInt) (p9001 : x1.toInt ≤ 11) (p9002 : 0 ≤ x2.toInt) (p9003 : x2.toInt ≤ 6) (p9004 : 0 ≤ r) (p9005 : r ≤ 2) (p9006 : (x2.toInt = 0 ∨ 1 ≤ r)) (p9007 : (x2.toInt ≤ 5 ∨ 2 ≤ r)) (p9008 : (σ.1 0 38).toInt + r ≤ 202)  : Ok (fun z => IvM g z.2 ∧ (z.2.1 0 38).toInt ≤ (σ.1 0 38).toInt + 64 * (r + 1)) (fX12_tellsFrom_0 qX12_tellsFrom σ x1 x2 x3) := by
  have hFU : ((FU : Nat) : Int) = 100000 := rfl
  unfold fX12_tellsFrom_0
  have : (0 : Int32).toInt = 0 := by decide
  refine ok_eq (fun h1 => ?_) (fun h1 => ?_)
  · have : (2 : Int32).toInt = 2 := by decide
    have : 0 ≤ (σ.1 0 38).toInt ∧ (σ.1 0 38).toInt ≤ 1000 := hI.1 0 38
    refine ok_bs (sX12_begins (σ.1 0 38).toInt σ 2 hI (by omega) (by omega) (by omega) (by omega)) (fun r2 σ3 hr2 => ?_)
    obtain ⟨p3, p4⟩ := hr2
    have p3 : IvM g σ3 := p3
    have p4 : (σ3.1 0 38).toInt = (σ.1 0 38).toInt + 1 := p4
    refine ok_ck (by omega) (by omega) ?_
    have : 0 ≤ (σ3.1 5 (Int32.toNatClampNeg x1)).toInt ∧ (σ3.1 5 (Int32.toNatClampNeg x1)).toInt ≤ 6 := p3.1 5 (Int32.toNatClampNeg x1)
    refine ok_nmI (fun v5 hv5 he5 => ?_)
    have := i32_rng x3
    refine ok_bs (sX12_keepsFrom σ3 x1 v5 x3 p3 (by omega) (by omega) (by omega) (by omega) (by omega)) (fun r6 σ7 hr6 => ?_)
    obtain ⟨p7, p8⟩ := hr6
    have p7 : IvM g σ7 := p7
    have p8 : (σ7.1 0 38).toInt ≤ (σ3.1 0 38).toInt + 16 * (2 + 1) := p8
    refine ok_ck (by omega) (by omega) ?_
    have : 0 ≤ (σ7.1 5 (Int32.toNatClampNeg x1)).toInt ∧ (σ7.1 5 (Int32.toNatClampNeg x1)).toInt ≤ 6 := p7.1 5 (Int32.toNatClampNeg x1)
    refine ok_nmI (fun v9 hv9 he9 => ?_)
    have : (1 : Int32).toInt = 1 := by decide
    refine ok_bs (sX12_movesFrom σ7 x1 v9 1 p7 (by omega) (by omega) (by omega) (by omega) (by omega)) (fun r10 σ11 hr10 => ?_)
    obtain ⟨p11, p12⟩ := hr10
    have p11 : IvM g σ11 := p11
    have p12 : (σ11.1 0 38).toInt ≤ (σ7.1 0 38).toInt + 5 * (2 + 1) := p12
    have := i32_rng r6
    have := i32_rng r10
    have := i32_rng (r6 - r10)
    exact ok_some ⟨p11, by show (σ11.1 0 38).toInt ≤ (σ.1 0 38).toInt + 64 * (r + 1); omega⟩
  · have : (4 : Int32).toInt = 4 := by decide
    refine ok_eq (fun h13 => ?_) (fun h13 => ?_)
    · have : (50 : Int32).toInt = 50 := by decide
      have : 0 ≤ (σ.1 0 38).toInt ∧ (σ.1 0 38).toInt ≤ 1000 := hI.1 0 38
      refine ok_bs (sX12_begins (σ.1 0 38).toInt σ 50 hI (by omega) (by omega) (by omega) (by omega)) (fun r14 σ15 hr14 => ?_)
      obtain ⟨p15, p16⟩ := hr14
      have p15 : IvM g σ15 := p15
      have p16 : (σ15.1 0 38).toInt = (σ.1 0 38).toInt + 1 := p16
      have := i32_rng x3
      refine ok_bs (hqX12_tellsFrom σ15 x1 0 x3 p15 (by omega) (by omega) (by omega) (by omega) (by omega) (by omega) (by omega) (by omega) (by omega)) (fun r17 σ18 hr17 => ?_)
      obtain ⟨p18, p19⟩ := hr17
      have p18 : IvM g σ18 := p18
      have p19 : (σ18.1 0 38).toInt ≤ (σ15.1 0 38).toInt + 64 * ((r - 1) + 1) := p19
      have := i32_rng r17
      have : (9 : Int32).toInt = 9 := by decide
      have := i32_rng (r17 ^^^ 9)
      exact ok_some ⟨p18, by show (σ18.1 0 38).toInt ≤ (σ.1 0 38).toInt + 64 * (r + 1); omega⟩
    · refine ok_bi (sX12_aboveOf σ x2 hI (by omega) (by omega)) (fun r20 hr20 => ?_)
      obtain ⟨p21, p22, p23, p24⟩ := hr20
      have p21 : 0 ≤ r20.toInt := p21
      have p22 : r20.toInt ≤ 1 := p22
      have p23 : x2.toInt = 6 → r20.toInt = 1 := p23
      have p24 : x2.toInt ≠ 6 → r20.toInt = 0 := p24
      have := i32_rng x3
      refine ok_bs (hqX12_tellsFrom σ x1 r20 x3 hI (by omega) (by omega) (by omega) (by omega) (by omega) (by omega) (by omega) (by omega) (by omega)) (fun r22 σ23 hr25 => ?_)
      obtain ⟨p26, p27⟩ := hr25
      have p26 : IvM g σ23 := p26
      have p27 : (σ23.1 0 38).toInt ≤ (σ.1 0 38).toInt + 64 * ((r - 1) + 1) := p27
      have := i32_rng r22
      exact ok_some ⟨p26, by show (σ23.1 0 38).toInt ≤ (σ.1 0 38).toInt + 64 * (r + 1); omega⟩

theorem sGX12_tellsFrom {g : Nat} : ∀ d : Nat, (∀ (r : Int) (σ : S2) (a1 : Int32) (a2 : Int32) (a3 : Int32), r < (d : Int) → IvM g σ → 0 ≤ a1.toInt → a1.toInt ≤ 11 → 0 ≤ a2.toInt → a2.toInt ≤ 6 → 0 ≤ r → r ≤ 2 → (a2.toInt = 0 ∨ 1 ≤ r) → (a2.toInt ≤ 5 ∨ 2 ≤ r) → (σ.1 0 38).toInt + r ≤ 202 → Ok (fun z => IvM g z.2 ∧ (z.2.1 0 38).toInt ≤ (σ.1 0 38).toInt + 64 * (r + 1)) (GX12_tellsFrom d 0 σ a1 a2 a3)) := by
  intro d
  induction d with
  | zero => exact (fun r σ a1 a2 a3 hd hI p0 p1 p2 p3 p4 p5 p6 p7 p8 => by exfalso; omega)
  | succ d ih =>
    exact (fun r σ a1 a2 a3 hd hI p0 p1 p2 p3 p4 p5 p6 p7 p8 => sX12_tellsFrom_0  r (GX12_tellsFrom d 0) (fun σ a1 a2 a3 hI p0 p1 p2 p3 p4 p5 p6 p7 p8 => ih (r - 1) σ a1 a2 a3 (by omega) hI p0 p1 p2 p3 p4 p5 p6 p7 p8) σ a1 a2 a3 hI p0 p1 p2 p3 p4 p5 p6 p7 p8)
theorem sX12_tellsFrom {g : Nat}  (σ : S2) (a1 : Int32) (a2 : Int32) (a3 : Int32) (hI : IvM g σ) (p9000 : 0 ≤ a1.toInt) (p9001 : a1.toInt ≤ 11) (p9002 : 0 ≤ a2.toInt) (p9003 : a2.toInt ≤ 6) (p9004 : (σ.1 0 38).toInt ≤ 200) : Ok (fun z => IvM g z.2 ∧ (z.2.1 0 38).toInt ≤ (σ.1 0 38).toInt + 64 * (2 + 1)) (fX12_tellsFrom σ a1 a2 a3) := by
  exact (sGX12_tellsFrom 24) 2  σ a1 a2 a3 (by decide) hI p9000 p9001 p9002 p9003 (by omega) (by omega) (by omega) (by omega) (by omega)

theorem sX12_act_0 {g : Nat} (σ : S2) (x1 : Int32) (x2 : Int32) (x3 : Int32) (hI : IvM g σ)   : Ok (fun z => IvM g z.2) (fX12_act_0 σ x1 x2 x3) := by
  have hFU : ((FU : Nat) : Int) = 100000 := rfl
  unfold fX12_act_0
  have : (0 : Int32).toInt = 0 := by decide
  refine ok_nm (fun σ1 hs1 => ?_)
  have hI2 : IvM g σ1 := by rw [hs1]; exact IvM.wI hI rfl (show 0 ≤ (0 : Int32).toInt by omega) (show (0 : Int32).toInt ≤ 1000 by omega)
  have : (σ1.1 0 38).toInt = (0 : Int32).toInt := by rw [hs1]; rfl
  have := i32_rng x1
  refine ok_bi (sX12_isKeeper σ1 x1 hI2) (fun r2 hr3 => ?_)
  obtain ⟨p4, p5, p6⟩ := hr3
  have p4 : 0 ≤ r2.toInt := p4
  have p5 : r2.toInt ≤ 1 := p5
  have p6 : r2.toInt ≠ 0 → 0 ≤ x1.toInt ∧ x1.toInt < (σ1.1 0 3).toInt := p6
  have : 0 ≤ (σ1.1 0 3).toInt ∧ (σ1.1 0 3).toInt ≤ 12 := hI2.1 0 3
  refine ok_eq (fun h7 => ?_) (fun h7 => ?_)
  · exact ok_some hI2
  · have := i32_rng x2
    have : (3 : Int32).toInt = 3 := by decide
    refine ok_bi (sX12_in σ1 x2 0 3 hI2 (by omega) (by omega) (by omega) (by omega)) (fun r4 hr8 => ?_)
    obtain ⟨p9, p10, p11⟩ := hr8
    have p9 : 0 ≤ r4.toInt := p9
    have p10 : r4.toInt ≤ 1 := p10
    have p11 : r4.toInt ≠ 0 → (0 : Int32).toInt ≤ x2.toInt ∧ x2.toInt ≤ (3 : Int32).toInt := p11
    refine ok_eq (fun h12 => ?_) (fun h12 => ?_)
    · exact ok_some hI2
    · refine ok_ck (by omega) (by omega) ?_
      have : 0 ≤ (σ1.1 5 (Int32.toNatClampNeg x1)).toInt ∧ (σ1.1 5 (Int32.toNatClampNeg x1)).toInt ≤ 6 := hI2.1 5 (Int32.toNatClampNeg x1)
      refine ok_nmI (fun v6 hv6 he13 => ?_)
      refine ok_eq (fun h14 => ?_) (fun h14 => ?_)
      · have := i32_rng x3
        refine ok_bs (sX12_findsFrom σ1 x1 v6 x3 hI2 (by omega) (by omega) (by omega) (by omega) (by omega)) (fun r16 σ17 hr15 => ?_)
        obtain ⟨p16, p17⟩ := hr15
        have p16 : IvM g σ17 := p16
        have p17 : (σ17.1 0 38).toInt ≤ (σ1.1 0 38).toInt + 1 * (2 + 1) := p17
        have := i32_rng r16
        exact ok_some p16
      · have : (1 : Int32).toInt = 1 := by decide
        refine ok_eq (fun h18 => ?_) (fun h18 => ?_)
        · have := i32_rng x3
          refine ok_bs (sX12_keepsFrom σ1 x1 v6 x3 hI2 (by omega) (by omega) (by omega) (by omega) (by omega)) (fun r13 σ14 hr19 => ?_)
          obtain ⟨p20, p21⟩ := hr19
          have p20 : IvM g σ14 := p20
          have p21 : (σ14.1 0 38).toInt ≤ (σ1.1 0 38).toInt + 16 * (2 + 1) := p21
          have := i32_rng r13
          exact ok_some p20
        · have : (2 : Int32).toInt = 2 := by decide
          refine ok_eq (fun h22 => ?_) (fun h22 => ?_)
          · have := i32_rng x3
            refine ok_bs (sX12_movesFrom σ1 x1 v6 x3 hI2 (by omega) (by omega) (by omega) (by omega) (by omega)) (fun r10 σ11 hr23 => ?_)
            obtain ⟨p24, p25⟩ := hr23
            have p24 : IvM g σ11 := p24
            have p25 : (σ11.1 0 38).toInt ≤ (σ1.1 0 38).toInt + 5 * (2 + 1) := p25
            have := i32_rng r10
            exact ok_some p24
          · have := i32_rng x3
            refine ok_bs (sX12_tellsFrom σ1 x1 v6 x3 hI2 (by omega) (by omega) (by omega) (by omega) (by omega)) (fun r7 σ8 hr26 => ?_)
            obtain ⟨p27, p28⟩ := hr26
            have p27 : IvM g σ8 := p27
            have p28 : (σ8.1 0 38).toInt ≤ (σ1.1 0 38).toInt + 64 * (2 + 1) := p28
            have := i32_rng r7
            exact ok_some p27

theorem sX12_act {g : Nat} (σ : S2) (a1 : Int32) (a2 : Int32) (a3 : Int32) (hI : IvM g σ)   : Ok (fun z => IvM g z.2) (fX12_act σ a1 a2 a3) := by
  unfold fX12_act
  exact sX12_act_0 σ a1 a2 a3 hI

theorem sX12_trace_0 {g : Nat} (σ : S2) (x1 : Int32) (hI : IvM g σ)   : Ok (fun z => (-1) ≤ z.toInt ∧ z.toInt ≤ 71) (fX12_trace_0 σ x1) := by
  have hFU : ((FU : Nat) : Int) = 100000 := rfl
  unfold fX12_trace_0
  have := i32_rng x1
  have : (0 : Int32).toInt = 0 := by decide
  refine ok_lt (fun h1 => ?_) (fun h1 => ?_)
  · have : ((-1) : Int32).toInt = (-1) := by decide
    exact ok_some ⟨by show (-1) ≤ ((-1) : Int32).toInt; omega, by show ((-1) : Int32).toInt ≤ 71; omega⟩
  · have : 0 ≤ (σ.1 0 38).toInt ∧ (σ.1 0 38).toInt ≤ 1000 := hI.1 0 38
    refine ok_le (fun h2 => ?_) (fun h2 => ?_)
    · have : ((-1) : Int32).toInt = (-1) := by decide
      exact ok_some ⟨by show (-1) ≤ ((-1) : Int32).toInt; omega, by show ((-1) : Int32).toInt ≤ 71; omega⟩
    · have : (24 : Int32).toInt = 24 := by decide
      refine ok_le (fun h3 => ?_) (fun h3 => ?_)
      · have : ((-1) : Int32).toInt = (-1) := by decide
        exact ok_some ⟨by show (-1) ≤ ((-1) : Int32).toInt; omega, by show ((-1) : Int32).toInt ≤ 71; omega⟩
      · refine ok_ck (by omega) (by omega) ?_
        have : 0 ≤ (σ.1 29 (Int32.toNatClampNeg x1)).toInt ∧ (σ.1 29 (Int32.toNatClampNeg x1)).toInt ≤ 71 := hI.1 29 (Int32.toNatClampNeg x1)
        refine ok_nmI (fun v1 hv1 he4 => ?_)
        exact ok_some ⟨by show (-1) ≤ v1.toInt; omega, by show v1.toInt ≤ 71; omega⟩

theorem sX12_trace {g : Nat} (σ : S2) (a1 : Int32) (hI : IvM g σ)   : Ok (fun z => (-1) ≤ z.toInt ∧ z.toInt ≤ 71) (fX12_trace σ a1) := by
  unfold fX12_trace
  exact sX12_trace_0 σ a1 hI

theorem sX12_isShelf_0 {g : Nat} (σ : S2) (x0 : Int32) (hI : IvM g σ)   : Ok (fun z => 0 ≤ z.toInt ∧ z.toInt ≤ 1 ∧ (z.toInt ≠ 0 → 0 ≤ x0.toInt ∧ x0.toInt ≤ 5)) (fX12_isShelf_0 σ x0) := by
  have hFU : ((FU : Nat) : Int) = 100000 := rfl
  unfold fX12_isShelf_0
  have := i32_rng x0
  have : (0 : Int32).toInt = 0 := by decide
  have : (5 : Int32).toInt = 5 := by decide
  refine ok_bi (sX12_in σ x0 0 5 hI (by omega) (by omega) (by omega) (by omega)) (fun r1 hr1 => ?_)
  obtain ⟨p2, p3, p4⟩ := hr1
  have p2 : 0 ≤ r1.toInt := p2
  have p3 : r1.toInt ≤ 1 := p3
  have p4 : r1.toInt ≠ 0 → (0 : Int32).toInt ≤ x0.toInt ∧ x0.toInt ≤ (5 : Int32).toInt := p4
  refine ok_zb (by omega) (by omega) ?_
  exact ok_some ⟨by show 0 ≤ r1.toInt; omega, by show r1.toInt ≤ 1; omega, by show r1.toInt ≠ 0 → 0 ≤ x0.toInt ∧ x0.toInt ≤ 5; omega⟩

theorem sX12_isShelf {g : Nat} (σ : S2) (a0 : Int32) (hI : IvM g σ)   : Ok (fun z => 0 ≤ z.toInt ∧ z.toInt ≤ 1 ∧ (z.toInt ≠ 0 → 0 ≤ a0.toInt ∧ a0.toInt ≤ 5)) (fX12_isShelf σ a0) := by
  unfold fX12_isShelf
  exact sX12_isShelf_0 σ a0 hI

theorem sX12_keep_22 {g : Nat} (σ : S2) (x1 : Int32) (x2 : Int32) (hI : IvM g σ) (p9000 : 0 ≤ x1.toInt) (p9001 : x1.toInt ≤ 5) (p9002 : (-1) ≤ x2.toInt) (p9003 : x2.toInt ≤ 11)  : Ok (fun z => IvM g z.2 ∧ (-1) ≤ z.1.toInt ∧ z.1.toInt ≤ 1) (fX12_keep_22 σ x1 x2) := by
  have hFU : ((FU : Nat) : Int) = 100000 := rfl
  unfold fX12_keep_22
  refine ok_ck (by omega) (by omega) ?_
  refine ok_nm (fun σ1 hs1 => ?_)
  have hI2 : IvM g σ1 := by rw [hs1]; exact IvM.wI hI rfl (show (-1) ≤ (x2 : Int32).toInt by omega) (show (x2 : Int32).toInt ≤ 11 by omega)
  refine ok_ck (by omega) (by omega) ?_
  have : ((-1) : Int32).toInt = (-1) := by decide
  refine ok_nm (fun σ2 hs3 => ?_)
  have hI4 : IvM g σ2 := by rw [hs3]; exact IvM.wI hI2 rfl (show (-1) ≤ ((-1) : Int32).toInt by omega) (show ((-1) : Int32).toInt ≤ 4 by omega)
  have : (1 : Int32).toInt = 1 := by decide
  exact ok_some ⟨hI4, by show (-1) ≤ (1 : Int32).toInt; omega, by show (1 : Int32).toInt ≤ 1; omega⟩

theorem sX12_keep_0 {g : Nat} (σ : S2) (x1 : Int32) (x2 : Int32) (hI : IvM g σ)   : Ok (fun z => IvM g z.2 ∧ (-1) ≤ z.1.toInt ∧ z.1.toInt ≤ 1) (fX12_keep_0 σ x1 x2) := by
  have hFU : ((FU : Nat) : Int) = 100000 := rfl
  unfold fX12_keep_0
  have := i32_rng x1
  refine ok_bi (sX12_isShelf σ x1 hI) (fun r3 hr1 => ?_)
  obtain ⟨p2, p3, p4⟩ := hr1
  have p2 : 0 ≤ r3.toInt := p2
  have p3 : r3.toInt ≤ 1 := p3
  have p4 : r3.toInt ≠ 0 → 0 ≤ x1.toInt ∧ x1.toInt ≤ 5 := p4
  have : (0 : Int32).toInt = 0 := by decide
  refine ok_eq (fun h5 => ?_) (fun h5 => ?_)
  · have : ((-1) : Int32).toInt = (-1) := by decide
    exact ok_some ⟨hI, by show (-1) ≤ ((-1) : Int32).toInt; omega, by show ((-1) : Int32).toInt ≤ 1; omega⟩
  · have := i32_rng x2
    have : ((-1) : Int32).toInt = (-1) := by decide
    refine ok_eq (fun h6 => ?_) (fun h6 => ?_)
    · exact sX12_keep_22 σ x1 x2 hI (by omega) (by omega) (by omega) (by omega)
    · refine ok_bi (sX12_isKeeper σ x2 hI) (fun r5 hr7 => ?_)
      obtain ⟨p8, p9, p10⟩ := hr7
      have p8 : 0 ≤ r5.toInt := p8
      have p9 : r5.toInt ≤ 1 := p9
      have p10 : r5.toInt ≠ 0 → 0 ≤ x2.toInt ∧ x2.toInt < (σ.1 0 3).toInt := p10
      have : 0 ≤ (σ.1 0 3).toInt ∧ (σ.1 0 3).toInt ≤ 12 := hI.1 0 3
      refine ok_eq (fun h11 => ?_) (fun h11 => ?_)
      · exact ok_some ⟨hI, by show (-1) ≤ ((-1) : Int32).toInt; omega, by show ((-1) : Int32).toInt ≤ 1; omega⟩
      · exact sX12_keep_22 σ x1 x2 hI (by omega) (by omega) (by omega) (by omega)

theorem sX12_keep {g : Nat} (σ : S2) (a1 : Int32) (a2 : Int32) (hI : IvM g σ)   : Ok (fun z => IvM g z.2 ∧ (-1) ≤ z.1.toInt ∧ z.1.toInt ≤ 1) (fX12_keep σ a1 a2) := by
  unfold fX12_keep
  exact sX12_keep_0 σ a1 a2 hI

theorem sX12_row_55 {g : Nat} : ∀ (n : Nat) (σ : S2) (x1 : Int32) (x4 : Int32), IvM g σ → 0 ≤ x1.toInt → x1.toInt ≤ 5 → 0 ≤ x4.toInt → x4.toInt ≤ 60 → 60 - x4.toInt < (n : Int) → Ok (fun z => IvM g z.2 ∧ (-14) ≤ z.1.toInt ∧ z.1.toInt ≤ 1) (fX12_row_55 n σ x1 x4) := by
  have hFU : ((FU : Nat) : Int) = 100000 := rfl
  intro n
  induction n with
  | zero => intro σ x1 x4 hI p9000 p9001 p9002 p9003 hm; exfalso; omega
  | succ n ih =>
    intro σ x1 x4 hI p9000 p9001 p9002 p9003 hm
    unfold fX12_row_55
    have : (60 : Int32).toInt = 60 := by decide
    refine ok_le (fun h1 => ?_) (fun h1 => ?_)
    · have : (1 : Int32).toInt = 1 := by decide
      exact ok_some ⟨hI, by show (-14) ≤ (1 : Int32).toInt; omega, by show (1 : Int32).toInt ≤ 1; omega⟩
    · have : ((60 * x1) : Int32).toInt = 60 * (x1 : Int32).toInt := i32_mulL (by omega) (by omega) (by omega)
      have : (((60 * x1) + x4) : Int32).toInt = ((60 * x1) : Int32).toInt + (x4 : Int32).toInt := i32_add (by omega) (by omega)
      refine ok_ck (by omega) (by omega) ?_
      refine ok_nm (fun σ1 hs2 => ?_)
      have hI3 : IvM g σ1 := by rw [hs2]; exact IvM.wL hI
      have : (1 : Int32).toInt = 1 := by decide
      have : ((x4 + 1) : Int32).toInt = (x4 : Int32).toInt + (1 : Int32).toInt := i32_add (by omega) (by omega)
      refine ok_nmI (fun v2 hv2 he4 => ?_)
      exact ih σ1 x1 v2 hI3 (by omega) (by omega) (by omega) (by omega) (by omega)

theorem sX12_row_0 {g : Nat} (σ : S2) (x1 : Int32) (x2 : Int32) (x3 : Int32) (hI : IvM g σ)   : Ok (fun z => IvM g z.2 ∧ (-14) ≤ z.1.toInt ∧ z.1.toInt ≤ 1) (fX12_row_0 σ x1 x2 x3) := by
  have hFU : ((FU : Nat) : Int) = 100000 := rfl
  unfold fX12_row_0
  have := i32_rng x1
  refine ok_bi (sX12_isShelf σ x1 hI) (fun r3 hr1 => ?_)
  obtain ⟨p2, p3, p4⟩ := hr1
  have p2 : 0 ≤ r3.toInt := p2
  have p3 : r3.toInt ≤ 1 := p3
  have p4 : r3.toInt ≠ 0 → 0 ≤ x1.toInt ∧ x1.toInt ≤ 5 := p4
  have : (0 : Int32).toInt = 0 := by decide
  refine ok_eq (fun h5 => ?_) (fun h5 => ?_)
  · have : ((-1) : Int32).toInt = (-1) := by decide
    exact ok_some ⟨hI, by show (-14) ≤ ((-1) : Int32).toInt; omega, by show ((-1) : Int32).toInt ≤ 1; omega⟩
  · have := i32_rng x2
    have : (4 : Int32).toInt = 4 := by decide
    refine ok_bi (sX12_in σ x2 0 4 hI (by omega) (by omega) (by omega) (by omega)) (fun r5 hr6 => ?_)
    obtain ⟨p7, p8, p9⟩ := hr6
    have p7 : 0 ≤ r5.toInt := p7
    have p8 : r5.toInt ≤ 1 := p8
    have p9 : r5.toInt ≠ 0 → (0 : Int32).toInt ≤ x2.toInt ∧ x2.toInt ≤ (4 : Int32).toInt := p9
    refine ok_eq (fun h10 => ?_) (fun h10 => ?_)
    · have : ((-1) : Int32).toInt = (-1) := by decide
      exact ok_some ⟨hI, by show (-14) ≤ ((-1) : Int32).toInt; omega, by show ((-1) : Int32).toInt ≤ 1; omega⟩
    · have := i32_rng x3
      have : (60 : Int32).toInt = 60 := by decide
      refine ok_le (fun h11 => ?_) (fun h11 => ?_)
      · refine ok_le (fun h12 => ?_) (fun h12 => ?_)
        · refine ok_ck (by omega) (by omega) ?_
          have : ((-1) : Int32).toInt = (-1) := by decide
          refine ok_nm (fun σ7 hs13 => ?_)
          have hI14 : IvM g σ7 := by rw [hs13]; exact IvM.wI hI rfl (show (-1) ≤ ((-1) : Int32).toInt by omega) (show ((-1) : Int32).toInt ≤ 11 by omega)
          refine ok_ck (by omega) (by omega) ?_
          refine ok_nm (fun σ8 hs15 => ?_)
          have hI16 : IvM g σ8 := by rw [hs15]; exact IvM.wI hI14 rfl (show (-1) ≤ (x2 : Int32).toInt by omega) (show (x2 : Int32).toInt ≤ 4 by omega)
          refine ok_ck (by omega) (by omega) ?_
          refine ok_nm (fun σ9 hs17 => ?_)
          have hI18 : IvM g σ9 := by rw [hs17]; exact IvM.wI hI16 rfl (show 0 ≤ (x3 : Int32).toInt by omega) (show (x3 : Int32).toInt ≤ 60 by omega)
          exact sX12_row_55 FU σ9 x1 0 hI18 (by omega) (by omega) (by omega) (by omega) (by omega)
        · have : ((-14) : Int32).toInt = (-14) := by decide
          exact ok_some ⟨hI, by show (-14) ≤ ((-14) : Int32).toInt; omega, by show ((-14) : Int32).toInt ≤ 1; omega⟩
      · have : ((-1) : Int32).toInt = (-1) := by decide
        exact ok_some ⟨hI, by show (-14) ≤ ((-1) : Int32).toInt; omega, by show ((-1) : Int32).toInt ≤ 1; omega⟩

theorem sX12_row {g : Nat} (σ : S2) (a1 : Int32) (a2 : Int32) (a3 : Int32) (hI : IvM g σ)   : Ok (fun z => IvM g z.2 ∧ (-14) ≤ z.1.toInt ∧ z.1.toInt ≤ 1) (fX12_row σ a1 a2 a3) := by
  unfold fX12_row
  exact sX12_row_0 σ a1 a2 a3 hI

theorem sX12_barred_0 {g : Nat} (σ : S2) (x1 : Int32) (x2 : Int32) (hI : IvM g σ)   : Ok (fun z => (-13) ≤ z.toInt ∧ z.toInt ≤ 0 ∧ (z.toInt = 0 → 0 ≤ x1.toInt ∧ x1.toInt ≤ 5 ∧ 0 ≤ x2.toInt ∧ x2.toInt ≤ 59)) (fX12_barred_0 σ x1 x2) := by
  have hFU : ((FU : Nat) : Int) = 100000 := rfl
  unfold fX12_barred_0
  have := i32_rng x1
  refine ok_bi (sX12_isShelf σ x1 hI) (fun r1 hr1 => ?_)
  obtain ⟨p2, p3, p4⟩ := hr1
  have p2 : 0 ≤ r1.toInt := p2
  have p3 : r1.toInt ≤ 1 := p3
  have p4 : r1.toInt ≠ 0 → 0 ≤ x1.toInt ∧ x1.toInt ≤ 5 := p4
  have : (0 : Int32).toInt = 0 := by decide
  refine ok_eq (fun h5 => ?_) (fun h5 => ?_)
  · have : ((-1) : Int32).toInt = (-1) := by decide
    exact ok_some ⟨by show (-13) ≤ ((-1) : Int32).toInt; omega, by show ((-1) : Int32).toInt ≤ 0; omega, by show ((-1) : Int32).toInt = 0 → 0 ≤ x1.toInt ∧ x1.toInt ≤ 5 ∧ 0 ≤ x2.toInt ∧ x2.toInt ≤ 59; omega⟩
  · refine ok_ck (by omega) (by omega) ?_
    have : (-1) ≤ (σ.1 31 (Int32.toNatClampNeg x1)).toInt ∧ (σ.1 31 (Int32.toNatClampNeg x1)).toInt ≤ 4 := hI.1 31 (Int32.toNatClampNeg x1)
    refine ok_nmI (fun v3 hv3 he6 => ?_)
    refine ok_le (fun h7 => ?_) (fun h7 => ?_)
    · refine ok_ck (by omega) (by omega) ?_
      have : 0 ≤ (σ.1 32 (Int32.toNatClampNeg x1)).toInt ∧ (σ.1 32 (Int32.toNatClampNeg x1)).toInt ≤ 60 := hI.1 32 (Int32.toNatClampNeg x1)
      refine ok_nmI (fun v4 hv4 he8 => ?_)
      have := i32_rng x2
      have : (1 : Int32).toInt = 1 := by decide
      have : ((v4 - 1) : Int32).toInt = (v4 : Int32).toInt - (1 : Int32).toInt := i32_sub (by omega) (by omega)
      refine ok_bi (sX12_in σ x2 0 (v4 - 1) hI (by omega) (by omega) (by omega) (by omega)) (fun r5 hr9 => ?_)
      obtain ⟨p10, p11, p12⟩ := hr9
      have p10 : 0 ≤ r5.toInt := p10
      have p11 : r5.toInt ≤ 1 := p11
      have p12 : r5.toInt ≠ 0 → (0 : Int32).toInt ≤ x2.toInt ∧ x2.toInt ≤ (v4 - 1).toInt := p12
      refine ok_eq (fun h13 => ?_) (fun h13 => ?_)
      · have : ((-13) : Int32).toInt = (-13) := by decide
        exact ok_some ⟨by show (-13) ≤ ((-13) : Int32).toInt; omega, by show ((-13) : Int32).toInt ≤ 0; omega, by show ((-13) : Int32).toInt = 0 → 0 ≤ x1.toInt ∧ x1.toInt ≤ 5 ∧ 0 ≤ x2.toInt ∧ x2.toInt ≤ 59; omega⟩
      · exact ok_some ⟨by show (-13) ≤ (0 : Int32).toInt; omega, by show (0 : Int32).toInt ≤ 0; omega, by show (0 : Int32).toInt = 0 → 0 ≤ x1.toInt ∧ x1.toInt ≤ 5 ∧ 0 ≤ x2.toInt ∧ x2.toInt ≤ 59; omega⟩
    · refine ok_ck (by omega) (by omega) ?_
      have : (-1) ≤ (σ.1 30 (Int32.toNatClampNeg x1)).toInt ∧ (σ.1 30 (Int32.toNatClampNeg x1)).toInt ≤ 11 := hI.1 30 (Int32.toNatClampNeg x1)
      refine ok_nmI (fun v7 hv7 he14 => ?_)
      refine ok_le (fun h15 => ?_) (fun h15 => ?_)
      · have : ((-12) : Int32).toInt = (-12) := by decide
        exact ok_some ⟨by show (-13) ≤ ((-12) : Int32).toInt; omega, by show ((-12) : Int32).toInt ≤ 0; omega, by show ((-12) : Int32).toInt = 0 → 0 ≤ x1.toInt ∧ x1.toInt ≤ 5 ∧ 0 ≤ x2.toInt ∧ x2.toInt ≤ 59; omega⟩
      · have : ((-11) : Int32).toInt = (-11) := by decide
        exact ok_some ⟨by show (-13) ≤ ((-11) : Int32).toInt; omega, by show ((-11) : Int32).toInt ≤ 0; omega, by show ((-11) : Int32).toInt = 0 → 0 ≤ x1.toInt ∧ x1.toInt ≤ 5 ∧ 0 ≤ x2.toInt ∧ x2.toInt ≤ 59; omega⟩

theorem sX12_barred {g : Nat} (σ : S2) (a1 : Int32) (a2 : Int32) (hI : IvM g σ)   : Ok (fun z => (-13) ≤ z.toInt ∧ z.toInt ≤ 0 ∧ (z.toInt = 0 → 0 ≤ a1.toInt ∧ a1.toInt ≤ 5 ∧ 0 ≤ a2.toInt ∧ a2.toInt ≤ 59)) (fX12_barred σ a1 a2) := by
  unfold fX12_barred
  exact sX12_barred_0 σ a1 a2 hI

theorem sX12_put_92 {g : Nat} (σ : S2) (s0 : Int64) (s1 : Int32) (hI : IvM g σ) (p9000 : 0 ≤ s1.toInt) (p9001 : s1.toInt ≤ 359)  : Ok (fun z => IvM g z.2 ∧ (-13) ≤ z.1.toInt ∧ z.1.toInt ≤ 1) (fX12_put_92 σ s0 s1) := by
  have hFU : ((FU : Nat) : Int) = 100000 := rfl
  unfold fX12_put_92
  refine ok_ck (by omega) (by omega) ?_
  refine ok_nm (fun σ1 hs1 => ?_)
  have hI2 : IvM g σ1 := by rw [hs1]; exact IvM.wL hI
  have : (1 : Int32).toInt = 1 := by decide
  exact ok_some ⟨hI2, by show (-13) ≤ (1 : Int32).toInt; omega, by show (1 : Int32).toInt ≤ 1; omega⟩

theorem sX12_put_0 {g : Nat} (σ : S2) (x1 : Int32) (x2 : Int32) (x3 : Int64) (hI : IvM g σ)   : Ok (fun z => IvM g z.2 ∧ (-13) ≤ z.1.toInt ∧ z.1.toInt ≤ 1) (fX12_put_0 σ x1 x2 x3) := by
  have hFU : ((FU : Nat) : Int) = 100000 := rfl
  unfold fX12_put_0
  have := i32_rng x1
  have := i32_rng x2
  refine ok_bi (sX12_barred σ x1 x2 hI) (fun r2 hr1 => ?_)
  obtain ⟨p2, p3, p4⟩ := hr1
  have p2 : (-13) ≤ r2.toInt := p2
  have p3 : r2.toInt ≤ 0 := p3
  have p4 : r2.toInt = 0 → 0 ≤ x1.toInt ∧ x1.toInt ≤ 5 ∧ 0 ≤ x2.toInt ∧ x2.toInt ≤ 59 := p4
  have : (0 : Int32).toInt = 0 := by decide
  refine ok_eq (fun h5 => ?_) (fun h5 => ?_)
  · refine ok_ck (by omega) (by omega) ?_
    have : (-1) ≤ (σ.1 31 (Int32.toNatClampNeg x1)).toInt ∧ (σ.1 31 (Int32.toNatClampNeg x1)).toInt ≤ 4 := hI.1 31 (Int32.toNatClampNeg x1)
    refine ok_nmI (fun v4 hv4 he6 => ?_)
    refine ok_eq (fun h7 => ?_) (fun h7 => ?_)
    · have : (60 : Int32).toInt = 60 := by decide
      have : ((60 * x1) : Int32).toInt = 60 * (x1 : Int32).toInt := i32_mulL (by omega) (by omega) (by omega)
      have : (((60 * x1) + x2) : Int32).toInt = ((60 * x1) : Int32).toInt + (x2 : Int32).toInt := i32_add (by omega) (by omega)
      exact sX12_put_92 σ (Int32.toInt64 (Int8.toInt32 (Int32.toInt8 (Int64.toInt32 x3)))) ((60 * x1) + x2) hI (by omega) (by omega)
    · have : (1 : Int32).toInt = 1 := by decide
      refine ok_eq (fun h8 => ?_) (fun h8 => ?_)
      · have : (60 : Int32).toInt = 60 := by decide
        have : ((60 * x1) : Int32).toInt = 60 * (x1 : Int32).toInt := i32_mulL (by omega) (by omega) (by omega)
        have : (((60 * x1) + x2) : Int32).toInt = ((60 * x1) : Int32).toInt + (x2 : Int32).toInt := i32_add (by omega) (by omega)
        exact sX12_put_92 σ (Int32.toInt64 (Int16.toInt32 (Int32.toInt16 (Int64.toInt32 x3)))) ((60 * x1) + x2) hI (by omega) (by omega)
      · have : (2 : Int32).toInt = 2 := by decide
        refine ok_eq (fun h9 => ?_) (fun h9 => ?_)
        · have : (60 : Int32).toInt = 60 := by decide
          have : ((60 * x1) : Int32).toInt = 60 * (x1 : Int32).toInt := i32_mulL (by omega) (by omega) (by omega)
          have : (((60 * x1) + x2) : Int32).toInt = ((60 * x1) : Int32).toInt + (x2 : Int32).toInt := i32_add (by omega) (by omega)
          exact sX12_put_92 σ (Int32.toInt64 (Int64.toInt32 x3)) ((60 * x1) + x2) hI (by omega) (by omega)
        · have : (3 : Int32).toInt = 3 := by decide
          refine ok_eq (fun h10 => ?_) (fun h10 => ?_)
          · have : (60 : Int32).toInt = 60 := by decide
            have : ((60 * x1) : Int32).toInt = 60 * (x1 : Int32).toInt := i32_mulL (by omega) (by omega) (by omega)
            have : (((60 * x1) + x2) : Int32).toInt = ((60 * x1) : Int32).toInt + (x2 : Int32).toInt := i32_add (by omega) (by omega)
            exact sX12_put_92 σ x3 ((60 * x1) + x2) hI (by omega) (by omega)
          · have := i32_rng (lg_cmp x3 0)
            refine ok_eq (fun h11 => ?_) (fun h11 => ?_)
            · have : (60 : Int32).toInt = 60 := by decide
              have : ((60 * x1) : Int32).toInt = 60 * (x1 : Int32).toInt := i32_mulL (by omega) (by omega) (by omega)
              have : (((60 * x1) + x2) : Int32).toInt = ((60 * x1) : Int32).toInt + (x2 : Int32).toInt := i32_add (by omega) (by omega)
              exact sX12_put_92 σ 0 ((60 * x1) + x2) hI (by omega) (by omega)
            · have : (60 : Int32).toInt = 60 := by decide
              have : ((60 * x1) : Int32).toInt = 60 * (x1 : Int32).toInt := i32_mulL (by omega) (by omega) (by omega)
              have : (((60 * x1) + x2) : Int32).toInt = ((60 * x1) : Int32).toInt + (x2 : Int32).toInt := i32_add (by omega) (by omega)
              exact sX12_put_92 σ 1 ((60 * x1) + x2) hI (by omega) (by omega)
  · exact ok_some ⟨hI, by show (-13) ≤ r2.toInt; omega, by show r2.toInt ≤ 1; omega⟩

theorem sX12_put {g : Nat} (σ : S2) (a1 : Int32) (a2 : Int32) (a3 : Int64) (hI : IvM g σ)   : Ok (fun z => IvM g z.2 ∧ (-13) ≤ z.1.toInt ∧ z.1.toInt ≤ 1) (fX12_put σ a1 a2 a3) := by
  unfold fX12_put
  exact sX12_put_0 σ a1 a2 a3 hI

theorem sX12_element_0 {g : Nat} (σ : S2) (x1 : Int32) (x2 : Int32) (hI : IvM g σ)   : Ok (fun z => True) (fX12_element_0 σ x1 x2) := by
  have hFU : ((FU : Nat) : Int) = 100000 := rfl
  unfold fX12_element_0
  have := i32_rng x1
  have := i32_rng x2
  refine ok_bi (sX12_barred σ x1 x2 hI) (fun r1 hr1 => ?_)
  obtain ⟨p2, p3, p4⟩ := hr1
  have p2 : (-13) ≤ r1.toInt := p2
  have p3 : r1.toInt ≤ 0 := p3
  have p4 : r1.toInt = 0 → 0 ≤ x1.toInt ∧ x1.toInt ≤ 5 ∧ 0 ≤ x2.toInt ∧ x2.toInt ≤ 59 := p4
  have : (0 : Int32).toInt = 0 := by decide
  refine ok_eq (fun h5 => ?_) (fun h5 => ?_)
  · have : (60 : Int32).toInt = 60 := by decide
    have : ((60 * x1) : Int32).toInt = 60 * (x1 : Int32).toInt := i32_mulL (by omega) (by omega) (by omega)
    have : (((60 * x1) + x2) : Int32).toInt = ((60 * x1) : Int32).toInt + (x2 : Int32).toInt := i32_add (by omega) (by omega)
    refine ok_ck (by omega) (by omega) ?_
    refine ok_nm (fun v3 _ => ?_)
    exact ok_some trivial
  · exact ok_some trivial

theorem sX12_element {g : Nat} (σ : S2) (a1 : Int32) (a2 : Int32) (hI : IvM g σ)   : Ok (fun z => True) (fX12_element σ a1 a2) := by
  unfold fX12_element
  exact sX12_element_0 σ a1 a2 hI

theorem sX12_shift_193 {g : Nat} (k167 : S2 → Int32 → Int32 → Int32 → Int32 → Option (Int32 × S2)) (σ : S2) (x5 : Int32) (x6 : Int32) (x7 : Int32) (x8 : Int32) (s0 : Int32) (hI : IvM g σ) (p9000 : 1 ≤ x5.toInt) (p9001 : x5.toInt ≤ 60) (p9002 : 0 ≤ x6.toInt) (p9003 : x6.toInt ≤ 360) (p9004 : 0 ≤ x7.toInt) (p9005 : x7.toInt ≤ 360) (p9006 : 0 ≤ x8.toInt) (p9007 : x8.toInt ≤ 59) (p9008 : (-59) ≤ s0.toInt) (p9009 : s0.toInt ≤ 59) (p9010 : 0 ≤ s0.toInt) (p9011 : s0.toInt < x5.toInt) (p9012 : x6.toInt + x5.toInt ≤ 360) (p9013 : x7.toInt + x5.toInt ≤ 360) (hk167 : ∀ (y0 : S2) (y1 : Int32) (y2 : Int32) (y3 : Int32) (y4 : Int32), IvM g y0 → 0 ≤ y1.toInt → y1.toInt ≤ 60 → 0 ≤ y2.toInt → y2.toInt ≤ 360 → 0 ≤ y3.toInt → y3.toInt ≤ 360 → 0 ≤ y4.toInt → y4.toInt ≤ 60 → y2.toInt + y1.toInt ≤ 360 → y3.toInt + y1.toInt ≤ 360 → x8.toInt + 1 ≤ y4.toInt → Ok (fun z => IvM g z.2 ∧ (-13) ≤ z.1.toInt ∧ z.1.toInt ≤ 60) (k167 y0 y1 y2 y3 y4)) : Ok (fun z => IvM g z.2 ∧ (-13) ≤ z.1.toInt ∧ z.1.toInt ≤ 60) (fX12_shift_193 k167 σ x5 x6 x7 x8 s0) := by
  have hFU : ((FU : Nat) : Int) = 100000 := rfl
  unfold fX12_shift_193
  have : ((x6 + s0) : Int32).toInt = (x6 : Int32).toInt + (s0 : Int32).toInt := i32_add (by omega) (by omega)
  refine ok_ck (by omega) (by omega) ?_
  refine ok_nm (fun v1 _ => ?_)
  have : ((x7 + s0) : Int32).toInt = (x7 : Int32).toInt + (s0 : Int32).toInt := i32_add (by omega) (by omega)
  refine ok_ck (by omega) (by omega) ?_
  refine ok_nm (fun σ2 hs1 => ?_)
  have hI2 : IvM g σ2 := by rw [hs1]; exact IvM.wL hI
  have : (1 : Int32).toInt = 1 := by decide
  have : ((x8 + 1) : Int32).toInt = (x8 : Int32).toInt + (1 : Int32).toInt := i32_add (by omega) (by omega)
  refine ok_nmI (fun v3 hv3 he3 => ?_)
  exact hk167 σ2 x5 x6 x7 v3 hI2 (by omega) (by omega) (by omega) (by omega) (by omega) (by omega) (by omega) (by omega) (by omega) (by omega) (by omega)

theorem sX12_shift_167 {g : Nat} : ∀ (n : Nat) (σ : S2) (x5 : Int32) (x6 : Int32) (x7 : Int32) (x8 : Int32), IvM g σ → 0 ≤ x5.toInt → x5.toInt ≤ 60 → 0 ≤ x6.toInt → x6.toInt ≤ 360 → 0 ≤ x7.toInt → x7.toInt ≤ 360 → 0 ≤ x8.toInt → x8.toInt ≤ 60 → x6.toInt + x5.toInt ≤ 360 → x7.toInt + x5.toInt ≤ 360 → 60 - x8.toInt < (n : Int) → Ok (fun z => IvM g z.2 ∧ (-13) ≤ z.1.toInt ∧ z.1.toInt ≤ 60) (fX12_shift_167 n σ x5 x6 x7 x8) := by
  have hFU : ((FU : Nat) : Int) = 100000 := rfl
  intro n
  induction n with
  | zero => intro σ x5 x6 x7 x8 hI p9000 p9001 p9002 p9003 p9004 p9005 p9006 p9007 p9008 p9009 hm; exfalso; omega
  | succ n ih =>
    intro σ x5 x6 x7 x8 hI p9000 p9001 p9002 p9003 p9004 p9005 p9006 p9007 p9008 p9009 hm
    unfold fX12_shift_167
    refine ok_le (fun h1 => ?_) (fun h1 => ?_)
    · exact ok_some ⟨hI, by show (-13) ≤ x5.toInt; omega, by show x5.toInt ≤ 60; omega⟩
    · refine ok_le (fun h2 => ?_) (fun h2 => ?_)
      · exact sX12_shift_193 (fX12_shift_167 n) σ x5 x6 x7 x8 x8 hI (by omega) (by omega) (by omega) (by omega) (by omega) (by omega) (by omega) (by omega) (by omega) (by omega) (by omega) (by omega) (by omega) (by omega) (fun y0 y1 y2 y3 y4 q0 q1 q2 q3 q4 q5 q6 q7 q8 q9 q10 q11 => ih y0 y1 y2 y3 y4 q0 q1 q2 q3 q4 q5 q6 q7 q8 q9 q10 (by omega))
      · have : (1 : Int32).toInt = 1 := by decide
        have : ((x5 - 1) : Int32).toInt = (x5 : Int32).toInt - (1 : Int32).toInt := i32_sub (by omega) (by omega)
        have : (((x5 - 1) - x8) : Int32).toInt = ((x5 - 1) : Int32).toInt - (x8 : Int32).toInt := i32_sub (by omega) (by omega)
        exact sX12_shift_193 (fX12_shift_167 n) σ x5 x6 x7 x8 ((x5 - 1) - x8) hI (by omega) (by omega) (by omega) (by omega) (by omega) (by omega) (by omega) (by omega) (by omega) (by omega) (by omega) (by omega) (by omega) (by omega) (fun y0 y1 y2 y3 y4 q0 q1 q2 q3 q4 q5 q6 q7 q8 q9 q10 q11 => ih y0 y1 y2 y3 y4 q0 q1 q2 q3 q4 q5 q6 q7 q8 q9 q10 (by omega))

theorem sX12_shift_55 {g : Nat} (σ : S2) (x1 : Int32) (x2 : Int32) (x3 : Int32) (x4 : Int32) (x5 : Int32) (hI : IvM g σ) (p9000 : 0 ≤ x1.toInt) (p9001 : x1.toInt ≤ 5) (p9002 : 0 ≤ x3.toInt) (p9003 : x3.toInt ≤ 5)  : Ok (fun z => IvM g z.2 ∧ (-13) ≤ z.1.toInt ∧ z.1.toInt ≤ 60) (fX12_shift_55 σ x1 x2 x3 x4 x5) := by
  have hFU : ((FU : Nat) : Int) = 100000 := rfl
  unfold fX12_shift_55
  refine ok_ck (by omega) (by omega) ?_
  have : (-1) ≤ (σ.1 31 (Int32.toNatClampNeg x1)).toInt ∧ (σ.1 31 (Int32.toNatClampNeg x1)).toInt ≤ 4 := hI.1 31 (Int32.toNatClampNeg x1)
  refine ok_nmI (fun v4 hv4 he1 => ?_)
  have : (0 : Int32).toInt = 0 := by decide
  refine ok_lt (fun h2 => ?_) (fun h2 => ?_)
  · have : ((-12) : Int32).toInt = (-12) := by decide
    exact ok_some ⟨hI, by show (-13) ≤ ((-12) : Int32).toInt; omega, by show ((-12) : Int32).toInt ≤ 60; omega⟩
  · refine ok_ck (by omega) (by omega) ?_
    refine ok_nmI (fun v5 hv5 he3 => ?_)
    refine ok_ck (by omega) (by omega) ?_
    have : (-1) ≤ (σ.1 31 (Int32.toNatClampNeg x3)).toInt ∧ (σ.1 31 (Int32.toNatClampNeg x3)).toInt ≤ 4 := hI.1 31 (Int32.toNatClampNeg x3)
    refine ok_nmI (fun v6 hv6 he4 => ?_)
    refine ok_eq (fun h5 => ?_) (fun h5 => ?_)
    · have := i32_rng x5
      refine ok_lt (fun h6 => ?_) (fun h6 => ?_)
      · have : ((-13) : Int32).toInt = (-13) := by decide
        exact ok_some ⟨hI, by show (-13) ≤ ((-13) : Int32).toInt; omega, by show ((-13) : Int32).toInt ≤ 60; omega⟩
      · have := i32_rng x2
        refine ok_lt (fun h7 => ?_) (fun h7 => ?_)
        · have : ((-13) : Int32).toInt = (-13) := by decide
          exact ok_some ⟨hI, by show (-13) ≤ ((-13) : Int32).toInt; omega, by show ((-13) : Int32).toInt ≤ 60; omega⟩
        · have := i32_rng x4
          refine ok_lt (fun h8 => ?_) (fun h8 => ?_)
          · have : ((-13) : Int32).toInt = (-13) := by decide
            exact ok_some ⟨hI, by show (-13) ≤ ((-13) : Int32).toInt; omega, by show ((-13) : Int32).toInt ≤ 60; omega⟩
          · refine ok_ck (by omega) (by omega) ?_
            have : 0 ≤ (σ.1 32 (Int32.toNatClampNeg x1)).toInt ∧ (σ.1 32 (Int32.toNatClampNeg x1)).toInt ≤ 60 := hI.1 32 (Int32.toNatClampNeg x1)
            refine ok_nmI (fun v7 hv7 he9 => ?_)
            refine ok_lt (fun h10 => ?_) (fun h10 => ?_)
            · have : ((-13) : Int32).toInt = (-13) := by decide
              exact ok_some ⟨hI, by show (-13) ≤ ((-13) : Int32).toInt; omega, by show ((-13) : Int32).toInt ≤ 60; omega⟩
            · refine ok_ck (by omega) (by omega) ?_
              have : 0 ≤ (σ.1 32 (Int32.toNatClampNeg x3)).toInt ∧ (σ.1 32 (Int32.toNatClampNeg x3)).toInt ≤ 60 := hI.1 32 (Int32.toNatClampNeg x3)
              refine ok_nmI (fun v8 hv8 he11 => ?_)
              refine ok_lt (fun h12 => ?_) (fun h12 => ?_)
              · have : ((-13) : Int32).toInt = (-13) := by decide
                exact ok_some ⟨hI, by show (-13) ≤ ((-13) : Int32).toInt; omega, by show ((-13) : Int32).toInt ≤ 60; omega⟩
              · refine ok_ck (by omega) (by omega) ?_
                refine ok_nmI (fun v9 hv9 he13 => ?_)
                have : ((v9 - x2) : Int32).toInt = (v9 : Int32).toInt - (x2 : Int32).toInt := i32_sub (by omega) (by omega)
                refine ok_lt (fun h14 => ?_) (fun h14 => ?_)
                · have : ((-13) : Int32).toInt = (-13) := by decide
                  exact ok_some ⟨hI, by show (-13) ≤ ((-13) : Int32).toInt; omega, by show ((-13) : Int32).toInt ≤ 60; omega⟩
                · refine ok_ck (by omega) (by omega) ?_
                  refine ok_nmI (fun v10 hv10 he15 => ?_)
                  have : ((v10 - x4) : Int32).toInt = (v10 : Int32).toInt - (x4 : Int32).toInt := i32_sub (by omega) (by omega)
                  refine ok_le (fun h16 => ?_) (fun h16 => ?_)
                  · have : (60 : Int32).toInt = 60 := by decide
                    have : ((60 * x1) : Int32).toInt = 60 * (x1 : Int32).toInt := i32_mulL (by omega) (by omega) (by omega)
                    have : (((60 * x1) + x2) : Int32).toInt = ((60 * x1) : Int32).toInt + (x2 : Int32).toInt := i32_add (by omega) (by omega)
                    refine ok_nmI (fun v11 hv11 he17 => ?_)
                    have : ((60 * x3) : Int32).toInt = 60 * (x3 : Int32).toInt := i32_mulL (by omega) (by omega) (by omega)
                    have : (((60 * x3) + x4) : Int32).toInt = ((60 * x3) : Int32).toInt + (x4 : Int32).toInt := i32_add (by omega) (by omega)
                    refine ok_nmI (fun v12 hv12 he18 => ?_)
                    exact sX12_shift_167 FU σ x5 v11 v12 0 hI (by omega) (by omega) (by omega) (by omega) (by omega) (by omega) (by omega) (by omega) (by omega) (by omega) (by omega)
                  · have : ((-13) : Int32).toInt = (-13) := by decide
                    exact ok_some ⟨hI, by show (-13) ≤ ((-13) : Int32).toInt; omega, by show ((-13) : Int32).toInt ≤ 60; omega⟩
    · have : ((-12) : Int32).toInt = (-12) := by decide
      exact ok_some ⟨hI, by show (-13) ≤ ((-12) : Int32).toInt; omega, by show ((-12) : Int32).toInt ≤ 60; omega⟩

theorem sX12_shift_34 {g : Nat} (σ : S2) (x1 : Int32) (x2 : Int32) (x3 : Int32) (x4 : Int32) (x5 : Int32) (hI : IvM g σ) (p9000 : 0 ≤ x1.toInt) (p9001 : x1.toInt ≤ 5) (p9002 : 0 ≤ x3.toInt) (p9003 : x3.toInt ≤ 5)  : Ok (fun z => IvM g z.2 ∧ (-13) ≤ z.1.toInt ∧ z.1.toInt ≤ 60) (fX12_shift_34 σ x1 x2 x3 x4 x5) := by
  have hFU : ((FU : Nat) : Int) = 100000 := rfl
  unfold fX12_shift_34
  refine ok_ck (by omega) (by omega) ?_
  have : (-1) ≤ (σ.1 31 (Int32.toNatClampNeg x3)).toInt ∧ (σ.1 31 (Int32.toNatClampNeg x3)).toInt ≤ 4 := hI.1 31 (Int32.toNatClampNeg x3)
  refine ok_nmI (fun v13 hv13 he1 => ?_)
  have : (0 : Int32).toInt = 0 := by decide
  refine ok_le (fun h2 => ?_) (fun h2 => ?_)
  · have := i32_rng x2
    have := i32_rng x4
    have := i32_rng x5
    exact sX12_shift_55 σ x1 x2 x3 x4 x5 hI (by omega) (by omega) (by omega) (by omega)
  · refine ok_ck (by omega) (by omega) ?_
    have : (-1) ≤ (σ.1 30 (Int32.toNatClampNeg x3)).toInt ∧ (σ.1 30 (Int32.toNatClampNeg x3)).toInt ≤ 11 := hI.1 30 (Int32.toNatClampNeg x3)
    refine ok_nmI (fun v14 hv14 he3 => ?_)
    refine ok_le (fun h4 => ?_) (fun h4 => ?_)
    · have := i32_rng x2
      have := i32_rng x4
      have := i32_rng x5
      exact sX12_shift_55 σ x1 x2 x3 x4 x5 hI (by omega) (by omega) (by omega) (by omega)
    · have : ((-11) : Int32).toInt = (-11) := by decide
      exact ok_some ⟨hI, by show (-13) ≤ ((-11) : Int32).toInt; omega, by show ((-11) : Int32).toInt ≤ 60; omega⟩

theorem sX12_shift_0 {g : Nat} (σ : S2) (x1 : Int32) (x2 : Int32) (x3 : Int32) (x4 : Int32) (x5 : Int32) (hI : IvM g σ)   : Ok (fun z => IvM g z.2 ∧ (-13) ≤ z.1.toInt ∧ z.1.toInt ≤ 60) (fX12_shift_0 σ x1 x2 x3 x4 x5) := by
  have hFU : ((FU : Nat) : Int) = 100000 := rfl
  unfold fX12_shift_0
  have := i32_rng x1
  refine ok_bi (sX12_isShelf σ x1 hI) (fun r15 hr1 => ?_)
  obtain ⟨p2, p3, p4⟩ := hr1
  have p2 : 0 ≤ r15.toInt := p2
  have p3 : r15.toInt ≤ 1 := p3
  have p4 : r15.toInt ≠ 0 → 0 ≤ x1.toInt ∧ x1.toInt ≤ 5 := p4
  have : (0 : Int32).toInt = 0 := by decide
  refine ok_eq (fun h5 => ?_) (fun h5 => ?_)
  · have : ((-1) : Int32).toInt = (-1) := by decide
    exact ok_some ⟨hI, by show (-13) ≤ ((-1) : Int32).toInt; omega, by show ((-1) : Int32).toInt ≤ 60; omega⟩
  · have := i32_rng x3
    refine ok_bi (sX12_isShelf σ x3 hI) (fun r17 hr6 => ?_)
    obtain ⟨p7, p8, p9⟩ := hr6
    have p7 : 0 ≤ r17.toInt := p7
    have p8 : r17.toInt ≤ 1 := p8
    have p9 : r17.toInt ≠ 0 → 0 ≤ x3.toInt ∧ x3.toInt ≤ 5 := p9
    refine ok_eq (fun h10 => ?_) (fun h10 => ?_)
    · have : ((-1) : Int32).toInt = (-1) := by decide
      exact ok_some ⟨hI, by show (-13) ≤ ((-1) : Int32).toInt; omega, by show ((-1) : Int32).toInt ≤ 60; omega⟩
    · refine ok_ck (by omega) (by omega) ?_
      have : (-1) ≤ (σ.1 31 (Int32.toNatClampNeg x1)).toInt ∧ (σ.1 31 (Int32.toNatClampNeg x1)).toInt ≤ 4 := hI.1 31 (Int32.toNatClampNeg x1)
      refine ok_nmI (fun v19 hv19 he11 => ?_)
      refine ok_le (fun h12 => ?_) (fun h12 => ?_)
      · have := i32_rng x2
        have := i32_rng x4
        have := i32_rng x5
        exact sX12_shift_34 σ x1 x2 x3 x4 x5 hI (by omega) (by omega) (by omega) (by omega)
      · refine ok_ck (by omega) (by omega) ?_
        have : (-1) ≤ (σ.1 30 (Int32.toNatClampNeg x1)).toInt ∧ (σ.1 30 (Int32.toNatClampNeg x1)).toInt ≤ 11 := hI.1 30 (Int32.toNatClampNeg x1)
        refine ok_nmI (fun v20 hv20 he13 => ?_)
        refine ok_lt (fun h14 => ?_) (fun h14 => ?_)
        · have : ((-11) : Int32).toInt = (-11) := by decide
          exact ok_some ⟨hI, by show (-13) ≤ ((-11) : Int32).toInt; omega, by show ((-11) : Int32).toInt ≤ 60; omega⟩
        · have := i32_rng x2
          have := i32_rng x4
          have := i32_rng x5
          exact sX12_shift_34 σ x1 x2 x3 x4 x5 hI (by omega) (by omega) (by omega) (by omega)

theorem sX12_shift {g : Nat} (σ : S2) (a1 : Int32) (a2 : Int32) (a3 : Int32) (a4 : Int32) (a5 : Int32) (hI : IvM g σ)   : Ok (fun z => IvM g z.2 ∧ (-13) ≤ z.1.toInt ∧ z.1.toInt ≤ 60) (fX12_shift σ a1 a2 a3 a4 a5) := by
  unfold fX12_shift
  exact sX12_shift_0 σ a1 a2 a3 a4 a5 hI

theorem sX12_taken_84 {g : Nat} (σ : S2) (x3 : Int32) (hI : IvM g σ) (p9000 : 0 ≤ x3.toInt) (p9001 : x3.toInt ≤ 6)  : Ok (fun z => (-12) ≤ z.toInt ∧ z.toInt ≤ 6) (fX12_taken_84 σ x3) := by
  have hFU : ((FU : Nat) : Int) = 100000 := rfl
  unfold fX12_taken_84
  exact ok_some ⟨by show (-12) ≤ x3.toInt; omega, by show x3.toInt ≤ 6; omega⟩

theorem sX12_taken_40 {g : Nat} (σ : S2) (x1 : Int32) (x2 : Int32) (hI : IvM g σ) (p9000 : 0 ≤ x1.toInt) (p9001 : x1.toInt ≤ 5) (p9002 : 0 ≤ x2.toInt) (p9003 : x2.toInt ≤ 6)  : Ok (fun z => (-12) ≤ z.toInt ∧ z.toInt ≤ 6) (fX12_taken_40 σ x1 x2) := by
  have hFU : ((FU : Nat) : Int) = 100000 := rfl
  unfold fX12_taken_40
  refine ok_ck (by omega) (by omega) ?_
  have : (-1) ≤ (σ.1 30 (Int32.toNatClampNeg x1)).toInt ∧ (σ.1 30 (Int32.toNatClampNeg x1)).toInt ≤ 11 := hI.1 30 (Int32.toNatClampNeg x1)
  refine ok_nmI (fun v1 hv1 he1 => ?_)
  have : (0 : Int32).toInt = 0 := by decide
  refine ok_le (fun h2 => ?_) (fun h2 => ?_)
  · refine ok_ck (by omega) (by omega) ?_
    refine ok_nmI (fun v2 hv2 he3 => ?_)
    refine ok_ck (by omega) (by omega) ?_
    have : 0 ≤ (σ.1 5 (Int32.toNatClampNeg v2)).toInt ∧ (σ.1 5 (Int32.toNatClampNeg v2)).toInt ≤ 6 := hI.1 5 (Int32.toNatClampNeg v2)
    refine ok_nmI (fun v3 hv3 he4 => ?_)
    refine ok_eq (fun h5 => ?_) (fun h5 => ?_)
    · exact sX12_taken_84 σ v3 hI (by omega) (by omega)
    · refine ok_eq (fun h6 => ?_) (fun h6 => ?_)
      · exact sX12_taken_84 σ v3 hI (by omega) (by omega)
      · have : (1 : Int32).toInt = 1 := by decide
        refine ok_eq (fun h7 => ?_) (fun h7 => ?_)
        · have : (6 : Int32).toInt = 6 := by decide
          refine ok_eq (fun h8 => ?_) (fun h8 => ?_)
          · exact sX12_taken_84 σ v3 hI (by omega) (by omega)
          · have : ((-12) : Int32).toInt = (-12) := by decide
            exact ok_some ⟨by show (-12) ≤ ((-12) : Int32).toInt; omega, by show ((-12) : Int32).toInt ≤ 6; omega⟩
        · have : ((-12) : Int32).toInt = (-12) := by decide
          exact ok_some ⟨by show (-12) ≤ ((-12) : Int32).toInt; omega, by show ((-12) : Int32).toInt ≤ 6; omega⟩
  · have : ((-12) : Int32).toInt = (-12) := by decide
    exact ok_some ⟨by show (-12) ≤ ((-12) : Int32).toInt; omega, by show ((-12) : Int32).toInt ≤ 6; omega⟩

theorem sX12_taken_0 {g : Nat} (σ : S2) (x1 : Int32) (x2 : Int32) (hI : IvM g σ)   : Ok (fun z => (-12) ≤ z.toInt ∧ z.toInt ≤ 6) (fX12_taken_0 σ x1 x2) := by
  have hFU : ((FU : Nat) : Int) = 100000 := rfl
  unfold fX12_taken_0
  have := i32_rng x1
  refine ok_bi (sX12_isShelf σ x1 hI) (fun r4 hr1 => ?_)
  obtain ⟨p2, p3, p4⟩ := hr1
  have p2 : 0 ≤ r4.toInt := p2
  have p3 : r4.toInt ≤ 1 := p3
  have p4 : r4.toInt ≠ 0 → 0 ≤ x1.toInt ∧ x1.toInt ≤ 5 := p4
  have : (0 : Int32).toInt = 0 := by decide
  refine ok_eq (fun h5 => ?_) (fun h5 => ?_)
  · have : ((-1) : Int32).toInt = (-1) := by decide
    exact ok_some ⟨by show (-12) ≤ ((-1) : Int32).toInt; omega, by show ((-1) : Int32).toInt ≤ 6; omega⟩
  · have := i32_rng x2
    have : (6 : Int32).toInt = 6 := by decide
    refine ok_bi (sX12_in σ x2 0 6 hI (by omega) (by omega) (by omega) (by omega)) (fun r6 hr6 => ?_)
    obtain ⟨p7, p8, p9⟩ := hr6
    have p7 : 0 ≤ r6.toInt := p7
    have p8 : r6.toInt ≤ 1 := p8
    have p9 : r6.toInt ≠ 0 → (0 : Int32).toInt ≤ x2.toInt ∧ x2.toInt ≤ (6 : Int32).toInt := p9
    refine ok_eq (fun h10 => ?_) (fun h10 => ?_)
    · have : ((-1) : Int32).toInt = (-1) := by decide
      exact ok_some ⟨by show (-12) ≤ ((-1) : Int32).toInt; omega, by show ((-1) : Int32).toInt ≤ 6; omega⟩
    · refine ok_ck (by omega) (by omega) ?_
      have : (-1) ≤ (σ.1 31 (Int32.toNatClampNeg x1)).toInt ∧ (σ.1 31 (Int32.toNatClampNeg x1)).toInt ≤ 4 := hI.1 31 (Int32.toNatClampNeg x1)
      refine ok_nmI (fun v8 hv8 he11 => ?_)
      refine ok_le (fun h12 => ?_) (fun h12 => ?_)
      · exact sX12_taken_40 σ x1 x2 hI (by omega) (by omega) (by omega) (by omega)
      · refine ok_ck (by omega) (by omega) ?_
        have : (-1) ≤ (σ.1 30 (Int32.toNatClampNeg x1)).toInt ∧ (σ.1 30 (Int32.toNatClampNeg x1)).toInt ≤ 11 := hI.1 30 (Int32.toNatClampNeg x1)
        refine ok_nmI (fun v9 hv9 he13 => ?_)
        refine ok_le (fun h14 => ?_) (fun h14 => ?_)
        · exact sX12_taken_40 σ x1 x2 hI (by omega) (by omega) (by omega) (by omega)
        · have : ((-11) : Int32).toInt = (-11) := by decide
          exact ok_some ⟨by show (-12) ≤ ((-11) : Int32).toInt; omega, by show ((-11) : Int32).toInt ≤ 6; omega⟩

theorem sX12_taken {g : Nat} (σ : S2) (a1 : Int32) (a2 : Int32) (hI : IvM g σ)   : Ok (fun z => (-12) ≤ z.toInt ∧ z.toInt ≤ 6) (fX12_taken σ a1 a2) := by
  unfold fX12_taken
  exact sX12_taken_0 σ a1 a2 hI

theorem sX12_names_278 {g : Nat} (k82 : S2 → Int32 → Int32 → Int32 → Int32 → Int32 → Int32 → Int32 → Option (Int32 × S2)) (σ : S2) (x1 : Int32) (x3 : Int32) (x4 : Int32) (x6 : Int32) (x7 : Int32) (x8 : Int32) (s0 : Int32) (s1 : Int32) (hI : IvM g σ) (p9000 : 0 ≤ x1.toInt) (p9001 : x1.toInt ≤ 5) (p9002 : 1 ≤ x3.toInt) (p9003 : x3.toInt ≤ 20) (p9004 : 0 ≤ x4.toInt) (p9005 : x4.toInt ≤ 60) (p9006 : 0 ≤ x7.toInt) (p9007 : x7.toInt ≤ 1) (p9008 : 0 ≤ x8.toInt) (p9009 : x8.toInt ≤ 19) (p9010 : 0 ≤ s0.toInt) (p9011 : s0.toInt ≤ 7) (p9012 : 0 ≤ s1.toInt) (p9013 : (s0.toInt = 0 ∨ (0 ≤ s0.toInt ∧ s1.toInt + s0.toInt ≤ 60))) (hk82 : ∀ (y0 : S2) (y1 : Int32) (y2 : Int32) (y3 : Int32) (y4 : Int32) (y5 : Int32) (y6 : Int32) (y7 : Int32), IvM g y0 → 0 ≤ y1.toInt → y1.toInt ≤ 5 → 1 ≤ y2.toInt → y2.toInt ≤ 20 → 0 ≤ y3.toInt → y3.toInt ≤ 60 → 0 ≤ y4.toInt → 0 ≤ y6.toInt → y6.toInt ≤ 1 → 0 ≤ y7.toInt → y7.toInt ≤ 20 → x8.toInt + 1 ≤ y7.toInt → Ok (fun z => IvM g z.2) (k82 y0 y1 y2 y3 y4 y5 y6 y7)) : Ok (fun z => IvM g z.2) (fX12_names_278 k82 σ x1 x3 x4 x6 x7 x8 s0 s1) := by
  have hFU : ((FU : Nat) : Int) = 100000 := rfl
  unfold fX12_names_278
  have := i32_rng s1
  have : ((s1 + s0) : Int32).toInt = (s1 : Int32).toInt + (s0 : Int32).toInt := i32_add (by omega) (by omega)
  refine ok_nmI (fun v1 hv1 he1 => ?_)
  have : (1 : Int32).toInt = 1 := by decide
  have : ((x8 + 1) : Int32).toInt = (x8 : Int32).toInt + (1 : Int32).toInt := i32_add (by omega) (by omega)
  refine ok_nmI (fun v2 hv2 he2 => ?_)
  have := i32_rng v1
  have := i32_rng x6
  exact hk82 σ x1 x3 x4 v1 x6 x7 v2 hI (by omega) (by omega) (by omega) (by omega) (by omega) (by omega) (by omega) (by omega) (by omega) (by omega) (by omega) (by omega)

theorem sX12_names_263 {g : Nat} (k82 : S2 → Int32 → Int32 → Int32 → Int32 → Int32 → Int32 → Int32 → Option (Int32 × S2)) (σ : S2) (x1 : Int32) (x3 : Int32) (x4 : Int32) (x5 : Int32) (x6 : Int32) (x7 : Int32) (x8 : Int32) (x9 : Int32) (hI : IvM g σ) (p9000 : 0 ≤ x1.toInt) (p9001 : x1.toInt ≤ 5) (p9002 : 1 ≤ x3.toInt) (p9003 : x3.toInt ≤ 20) (p9004 : 0 ≤ x4.toInt) (p9005 : x4.toInt ≤ 60) (p9006 : 0 ≤ x5.toInt) (p9007 : 0 ≤ x7.toInt) (p9008 : x7.toInt ≤ 1) (p9009 : 0 ≤ x8.toInt) (p9010 : x8.toInt ≤ 19) (p9011 : (x7.toInt = 0 ∨ (1 ≤ x9.toInt ∧ x9.toInt ≤ 6 ∧ x5.toInt + x9.toInt < x4.toInt))) (hk82 : ∀ (y0 : S2) (y1 : Int32) (y2 : Int32) (y3 : Int32) (y4 : Int32) (y5 : Int32) (y6 : Int32) (y7 : Int32), IvM g y0 → 0 ≤ y1.toInt → y1.toInt ≤ 5 → 1 ≤ y2.toInt → y2.toInt ≤ 20 → 0 ≤ y3.toInt → y3.toInt ≤ 60 → 0 ≤ y4.toInt → 0 ≤ y6.toInt → y6.toInt ≤ 1 → 0 ≤ y7.toInt → y7.toInt ≤ 20 → x8.toInt + 1 ≤ y7.toInt → Ok (fun z => IvM g z.2) (k82 y0 y1 y2 y3 y4 y5 y6 y7)) : Ok (fun z => IvM g z.2) (fX12_names_263 k82 σ x1 x3 x4 x5 x6 x7 x8 x9) := by
  have hFU : ((FU : Nat) : Int) = 100000 := rfl
  unfold fX12_names_263
  have : (0 : Int32).toInt = 0 := by decide
  refine ok_eq (fun h1 => ?_) (fun h1 => ?_)
  · have := i32_rng x6
    have := i32_rng x5
    exact sX12_names_278 k82 σ x1 x3 x4 x6 x7 x8 0 x5 hI (by omega) (by omega) (by omega) (by omega) (by omega) (by omega) (by omega) (by omega) (by omega) (by omega) (by omega) (by omega) (by omega) (by omega) (fun y0 y1 y2 y3 y4 y5 y6 y7 q0 q1 q2 q3 q4 q5 q6 q7 q8 q9 q10 q11 q12 => hk82 y0 y1 y2 y3 y4 y5 y6 y7 q0 q1 q2 q3 q4 q5 q6 q7 q8 q9 q10 q11 (by omega))
  · have := i32_rng x6
    have : (1 : Int32).toInt = 1 := by decide
    have : ((1 + x9) : Int32).toInt = (1 : Int32).toInt + (x9 : Int32).toInt := i32_add (by omega) (by omega)
    have := i32_rng x5
    exact sX12_names_278 k82 σ x1 x3 x4 x6 x7 x8 (1 + x9) x5 hI (by omega) (by omega) (by omega) (by omega) (by omega) (by omega) (by omega) (by omega) (by omega) (by omega) (by omega) (by omega) (by omega) (by omega) (fun y0 y1 y2 y3 y4 y5 y6 y7 q0 q1 q2 q3 q4 q5 q6 q7 q8 q9 q10 q11 q12 => hk82 y0 y1 y2 y3 y4 y5 y6 y7 q0 q1 q2 q3 q4 q5 q6 q7 q8 q9 q10 q11 (by omega))

theorem sX12_names_242 {g : Nat} (k82 : S2 → Int32 → Int32 → Int32 → Int32 → Int32 → Int32 → Int32 → Option (Int32 × S2)) (σ : S2) (x1 : Int32) (x3 : Int32) (x4 : Int32) (x5 : Int32) (x6 : Int32) (x8 : Int32) (x9 : Int32) (x10 : Int32) (s0 : Int32) (hI : IvM g σ) (p9000 : 0 ≤ x1.toInt) (p9001 : x1.toInt ≤ 5) (p9002 : 1 ≤ x3.toInt) (p9003 : x3.toInt ≤ 20) (p9004 : 0 ≤ x4.toInt) (p9005 : x4.toInt ≤ 60) (p9006 : 0 ≤ x5.toInt) (p9007 : 0 ≤ x8.toInt) (p9008 : x8.toInt ≤ 19) (p9009 : 0 ≤ x10.toInt) (p9010 : x10.toInt ≤ 1) (p9011 : 0 ≤ s0.toInt) (p9012 : s0.toInt ≤ 1) (p9013 : (s0.toInt = 0 ∨ (1 ≤ x9.toInt ∧ x9.toInt ≤ 6 ∧ x5.toInt + x9.toInt < x4.toInt))) (p9014 : (s0.toInt = 0 ∨ x10.toInt = 0 ∨ (σ.1 0 0).toInt ≤ 39)) (p9015 : (s0.toInt = 0 ∨ x10.toInt = 0 ∨ (σ.1 0 0).toInt ≤ 39)) (hk82 : ∀ (y0 : S2) (y1 : Int32) (y2 : Int32) (y3 : Int32) (y4 : Int32) (y5 : Int32) (y6 : Int32) (y7 : Int32), IvM g y0 → 0 ≤ y1.toInt → y1.toInt ≤ 5 → 1 ≤ y2.toInt → y2.toInt ≤ 20 → 0 ≤ y3.toInt → y3.toInt ≤ 60 → 0 ≤ y4.toInt → 0 ≤ y6.toInt → y6.toInt ≤ 1 → 0 ≤ y7.toInt → y7.toInt ≤ 20 → x8.toInt + 1 ≤ y7.toInt → Ok (fun z => IvM g z.2) (k82 y0 y1 y2 y3 y4 y5 y6 y7)) : Ok (fun z => IvM g z.2) (fX12_names_242 k82 σ x1 x3 x4 x5 x6 x8 x9 x10 s0) := by
  have hFU : ((FU : Nat) : Int) = 100000 := rfl
  unfold fX12_names_242
  have : (0 : Int32).toInt = 0 := by decide
  refine ok_eq (fun h1 => ?_) (fun h1 => ?_)
  · have := i32_rng x5
    have := i32_rng x6
    have := i32_rng x9
    exact sX12_names_263 k82 σ x1 x3 x4 x5 x6 s0 x8 x9 hI (by omega) (by omega) (by omega) (by omega) (by omega) (by omega) (by omega) (by omega) (by omega) (by omega) (by omega) (by omega) (fun y0 y1 y2 y3 y4 y5 y6 y7 q0 q1 q2 q3 q4 q5 q6 q7 q8 q9 q10 q11 q12 => hk82 y0 y1 y2 y3 y4 y5 y6 y7 q0 q1 q2 q3 q4 q5 q6 q7 q8 q9 q10 q11 (by omega))
  · refine ok_eq (fun h2 => ?_) (fun h2 => ?_)
    · have := i32_rng x5
      have := i32_rng x6
      have := i32_rng x9
      exact sX12_names_263 k82 σ x1 x3 x4 x5 x6 s0 x8 x9 hI (by omega) (by omega) (by omega) (by omega) (by omega) (by omega) (by omega) (by omega) (by omega) (by omega) (by omega) (by omega) (fun y0 y1 y2 y3 y4 y5 y6 y7 q0 q1 q2 q3 q4 q5 q6 q7 q8 q9 q10 q11 q12 => hk82 y0 y1 y2 y3 y4 y5 y6 y7 q0 q1 q2 q3 q4 q5 q6 q7 q8 q9 q10 q11 (by omega))
    · have := i32_rng x9
      have : 0 ≤ (σ.1 0 0).toInt ∧ (σ.1 0 0).toInt ≤ 40 := hI.1 0 0
      refine ok_bs (sX12_comesName σ x9 hI (by omega) (by omega) (by omega) (by omega)) (fun r3 σ4 hr3 => ?_)
      have hr3 : IvM g σ4 := hr3
      have := i32_rng x6
      have : (1 : Int32).toInt = 1 := by decide
      have := i32_rng (x6 + 1)
      refine ok_nmI (fun v6 hv6 he5 => ?_)
      have := i32_rng x5
      have := i32_rng v6
      exact sX12_names_263 k82 σ4 x1 x3 x4 x5 v6 s0 x8 x9 hr3 (by omega) (by omega) (by omega) (by omega) (by omega) (by omega) (by omega) (by omega) (by omega) (by omega) (by omega) (by omega) (fun y0 y1 y2 y3 y4 y5 y6 y7 q0 q1 q2 q3 q4 q5 q6 q7 q8 q9 q10 q11 q12 => hk82 y0 y1 y2 y3 y4 y5 y6 y7 q0 q1 q2 q3 q4 q5 q6 q7 q8 q9 q10 q11 (by omega))

theorem sX12_names_241 {g : Nat} (k82 : S2 → Int32 → Int32 → Int32 → Int32 → Int32 → Int32 → Int32 → Option (Int32 × S2)) (σ : S2) (x1 : Int32) (x3 : Int32) (x4 : Int32) (x5 : Int32) (x6 : Int32) (x8 : Int32) (x9 : Int32) (x10 : Int32) (hI : IvM g σ) (p9000 : 0 ≤ x1.toInt) (p9001 : x1.toInt ≤ 5) (p9002 : 1 ≤ x3.toInt) (p9003 : x3.toInt ≤ 20) (p9004 : 0 ≤ x4.toInt) (p9005 : x4.toInt ≤ 60) (p9006 : 0 ≤ x5.toInt) (p9007 : 0 ≤ x8.toInt) (p9008 : x8.toInt ≤ 19) (p9009 : 0 ≤ x10.toInt) (p9010 : x10.toInt ≤ 1) (hk82 : ∀ (y0 : S2) (y1 : Int32) (y2 : Int32) (y3 : Int32) (y4 : Int32) (y5 : Int32) (y6 : Int32) (y7 : Int32), IvM g y0 → 0 ≤ y1.toInt → y1.toInt ≤ 5 → 1 ≤ y2.toInt → y2.toInt ≤ 20 → 0 ≤ y3.toInt → y3.toInt ≤ 60 → 0 ≤ y4.toInt → 0 ≤ y6.toInt → y6.toInt ≤ 1 → 0 ≤ y7.toInt → y7.toInt ≤ 20 → x8.toInt + 1 ≤ y7.toInt → Ok (fun z => IvM g z.2) (k82 y0 y1 y2 y3 y4 y5 y6 y7)) : Ok (fun z => IvM g z.2) (fX12_names_241 k82 σ x1 x3 x4 x5 x6 x8 x9 x10) := by
  have hFU : ((FU : Nat) : Int) = 100000 := rfl
  unfold fX12_names_241
  have := i32_rng x5
  have := i32_rng x6
  have := i32_rng x9
  have : (0 : Int32).toInt = 0 := by decide
  exact sX12_names_242 k82 σ x1 x3 x4 x5 x6 x8 x9 x10 0 hI (by omega) (by omega) (by omega) (by omega) (by omega) (by omega) (by omega) (by omega) (by omega) (by omega) (by omega) (by omega) (by omega) (by omega) (by omega) (by omega) (fun y0 y1 y2 y3 y4 y5 y6 y7 q0 q1 q2 q3 q4 q5 q6 q7 q8 q9 q10 q11 q12 => hk82 y0 y1 y2 y3 y4 y5 y6 y7 q0 q1 q2 q3 q4 q5 q6 q7 q8 q9 q10 q11 (by omega))

theorem sX12_names_237 {g : Nat} (k82 : S2 → Int32 → Int32 → Int32 → Int32 → Int32 → Int32 → Int32 → Option (Int32 × S2)) (σ : S2) (x1 : Int32) (x3 : Int32) (x4 : Int32) (x5 : Int32) (x6 : Int32) (x8 : Int32) (x9 : Int32) (x10 : Int32) (hI : IvM g σ) (p9000 : 0 ≤ x1.toInt) (p9001 : x1.toInt ≤ 5) (p9002 : 1 ≤ x3.toInt) (p9003 : x3.toInt ≤ 20) (p9004 : 0 ≤ x4.toInt) (p9005 : x4.toInt ≤ 60) (p9006 : 0 ≤ x5.toInt) (p9007 : 0 ≤ x8.toInt) (p9008 : x8.toInt ≤ 19) (p9009 : 0 ≤ x10.toInt) (p9010 : x10.toInt ≤ 1) (p9011 : 1 ≤ x9.toInt) (p9012 : x9.toInt ≤ 6) (p9013 : x5.toInt + x9.toInt < x4.toInt) (p9014 : (x10.toInt = 0 ∨ (σ.1 0 0).toInt ≤ 39)) (hk82 : ∀ (y0 : S2) (y1 : Int32) (y2 : Int32) (y3 : Int32) (y4 : Int32) (y5 : Int32) (y6 : Int32) (y7 : Int32), IvM g y0 → 0 ≤ y1.toInt → y1.toInt ≤ 5 → 1 ≤ y2.toInt → y2.toInt ≤ 20 → 0 ≤ y3.toInt → y3.toInt ≤ 60 → 0 ≤ y4.toInt → 0 ≤ y6.toInt → y6.toInt ≤ 1 → 0 ≤ y7.toInt → y7.toInt ≤ 20 → x8.toInt + 1 ≤ y7.toInt → Ok (fun z => IvM g z.2) (k82 y0 y1 y2 y3 y4 y5 y6 y7)) : Ok (fun z => IvM g z.2) (fX12_names_237 k82 σ x1 x3 x4 x5 x6 x8 x9 x10) := by
  have hFU : ((FU : Nat) : Int) = 100000 := rfl
  unfold fX12_names_237
  have := i32_rng x5
  have := i32_rng x6
  have := i32_rng x9
  have : (1 : Int32).toInt = 1 := by decide
  exact sX12_names_242 k82 σ x1 x3 x4 x5 x6 x8 x9 x10 1 hI (by omega) (by omega) (by omega) (by omega) (by omega) (by omega) (by omega) (by omega) (by omega) (by omega) (by omega) (by omega) (by omega) (by omega) (by omega) (by omega) (fun y0 y1 y2 y3 y4 y5 y6 y7 q0 q1 q2 q3 q4 q5 q6 q7 q8 q9 q10 q11 q12 => hk82 y0 y1 y2 y3 y4 y5 y6 y7 q0 q1 q2 q3 q4 q5 q6 q7 q8 q9 q10 q11 (by omega))

theorem sX12_names_216 {g : Nat} (k82 : S2 → Int32 → Int32 → Int32 → Int32 → Int32 → Int32 → Int32 → Option (Int32 × S2)) (σ : S2) (x1 : Int32) (x3 : Int32) (x4 : Int32) (x5 : Int32) (x6 : Int32) (x7 : Int32) (x8 : Int32) (x9 : Int32) (s0 : Int32) (hI : IvM g σ) (p9000 : 0 ≤ x1.toInt) (p9001 : x1.toInt ≤ 5) (p9002 : 1 ≤ x3.toInt) (p9003 : x3.toInt ≤ 20) (p9004 : 0 ≤ x4.toInt) (p9005 : x4.toInt ≤ 60) (p9006 : 0 ≤ x5.toInt) (p9007 : 0 ≤ x7.toInt) (p9008 : x7.toInt ≤ 1) (p9009 : 0 ≤ x8.toInt) (p9010 : x8.toInt ≤ 19) (p9011 : 0 ≤ s0.toInt) (p9012 : s0.toInt ≤ 1) (p9013 : (x7.toInt = 0 ∨ (1 ≤ x9.toInt ∧ x9.toInt ≤ 6 ∧ x5.toInt + x9.toInt < x4.toInt))) (hk82 : ∀ (y0 : S2) (y1 : Int32) (y2 : Int32) (y3 : Int32) (y4 : Int32) (y5 : Int32) (y6 : Int32) (y7 : Int32), IvM g y0 → 0 ≤ y1.toInt → y1.toInt ≤ 5 → 1 ≤ y2.toInt → y2.toInt ≤ 20 → 0 ≤ y3.toInt → y3.toInt ≤ 60 → 0 ≤ y4.toInt → 0 ≤ y6.toInt → y6.toInt ≤ 1 → 0 ≤ y7.toInt → y7.toInt ≤ 20 → x8.toInt + 1 ≤ y7.toInt → Ok (fun z => IvM g z.2) (k82 y0 y1 y2 y3 y4 y5 y6 y7)) : Ok (fun z => IvM g z.2) (fX12_names_216 k82 σ x1 x3 x4 x5 x6 x7 x8 x9 s0) := by
  have hFU : ((FU : Nat) : Int) = 100000 := rfl
  unfold fX12_names_216
  have : (0 : Int32).toInt = 0 := by decide
  refine ok_eq (fun h1 => ?_) (fun h1 => ?_)
  · have := i32_rng x5
    have := i32_rng x6
    have := i32_rng x9
    exact sX12_names_241 k82 σ x1 x3 x4 x5 x6 x8 x9 s0 hI (by omega) (by omega) (by omega) (by omega) (by omega) (by omega) (by omega) (by omega) (by omega) (by omega) (by omega) (fun y0 y1 y2 y3 y4 y5 y6 y7 q0 q1 q2 q3 q4 q5 q6 q7 q8 q9 q10 q11 q12 => hk82 y0 y1 y2 y3 y4 y5 y6 y7 q0 q1 q2 q3 q4 q5 q6 q7 q8 q9 q10 q11 (by omega))
  · refine ok_eq (fun h2 => ?_) (fun h2 => ?_)
    · have := i32_rng x5
      have := i32_rng x6
      have := i32_rng x9
      exact sX12_names_237 k82 σ x1 x3 x4 x5 x6 x8 x9 s0 hI (by omega) (by omega) (by omega) (by omega) (by omega) (by omega) (by omega) (by omega) (by omega) (by omega) (by omega) (by omega) (by omega) (by omega) (by omega) (fun y0 y1 y2 y3 y4 y5 y6 y7 q0 q1 q2 q3 q4 q5 q6 q7 q8 q9 q10 q11 q12 => hk82 y0 y1 y2 y3 y4 y5 y6 y7 q0 q1 q2 q3 q4 q5 q6 q7 q8 q9 q10 q11 (by omega))
    · have : 0 ≤ (σ.1 0 0).toInt ∧ (σ.1 0 0).toInt ≤ 40 := hI.1 0 0
      have : (40 : Int32).toInt = 40 := by decide
      refine ok_eq (fun h3 => ?_) (fun h3 => ?_)
      · have := i32_rng x5
        have := i32_rng x6
        have := i32_rng x9
        exact sX12_names_241 k82 σ x1 x3 x4 x5 x6 x8 x9 s0 hI (by omega) (by omega) (by omega) (by omega) (by omega) (by omega) (by omega) (by omega) (by omega) (by omega) (by omega) (fun y0 y1 y2 y3 y4 y5 y6 y7 q0 q1 q2 q3 q4 q5 q6 q7 q8 q9 q10 q11 q12 => hk82 y0 y1 y2 y3 y4 y5 y6 y7 q0 q1 q2 q3 q4 q5 q6 q7 q8 q9 q10 q11 (by omega))
      · have := i32_rng x5
        have := i32_rng x6
        have := i32_rng x9
        exact sX12_names_237 k82 σ x1 x3 x4 x5 x6 x8 x9 s0 hI (by omega) (by omega) (by omega) (by omega) (by omega) (by omega) (by omega) (by omega) (by omega) (by omega) (by omega) (by omega) (by omega) (by omega) (by omega) (fun y0 y1 y2 y3 y4 y5 y6 y7 q0 q1 q2 q3 q4 q5 q6 q7 q8 q9 q10 q11 q12 => hk82 y0 y1 y2 y3 y4 y5 y6 y7 q0 q1 q2 q3 q4 q5 q6 q7 q8 q9 q10 q11 (by omega))

theorem sX12_names_215 {g : Nat} (k82 : S2 → Int32 → Int32 → Int32 → Int32 → Int32 → Int32 → Int32 → Option (Int32 × S2)) (σ : S2) (x1 : Int32) (x3 : Int32) (x4 : Int32) (x5 : Int32) (x6 : Int32) (x7 : Int32) (x8 : Int32) (x9 : Int32) (hI : IvM g σ) (p9000 : 0 ≤ x1.toInt) (p9001 : x1.toInt ≤ 5) (p9002 : 1 ≤ x3.toInt) (p9003 : x3.toInt ≤ 20) (p9004 : 0 ≤ x4.toInt) (p9005 : x4.toInt ≤ 60) (p9006 : 0 ≤ x5.toInt) (p9007 : 0 ≤ x7.toInt) (p9008 : x7.toInt ≤ 1) (p9009 : 0 ≤ x8.toInt) (p9010 : x8.toInt ≤ 19) (p9011 : (x7.toInt = 0 ∨ (1 ≤ x9.toInt ∧ x9.toInt ≤ 6 ∧ x5.toInt + x9.toInt < x4.toInt))) (hk82 : ∀ (y0 : S2) (y1 : Int32) (y2 : Int32) (y3 : Int32) (y4 : Int32) (y5 : Int32) (y6 : Int32) (y7 : Int32), IvM g y0 → 0 ≤ y1.toInt → y1.toInt ≤ 5 → 1 ≤ y2.toInt → y2.toInt ≤ 20 → 0 ≤ y3.toInt → y3.toInt ≤ 60 → 0 ≤ y4.toInt → 0 ≤ y6.toInt → y6.toInt ≤ 1 → 0 ≤ y7.toInt → y7.toInt ≤ 20 → x8.toInt + 1 ≤ y7.toInt → Ok (fun z => IvM g z.2) (k82 y0 y1 y2 y3 y4 y5 y6 y7)) : Ok (fun z => IvM g z.2) (fX12_names_215 k82 σ x1 x3 x4 x5 x6 x7 x8 x9) := by
  have hFU : ((FU : Nat) : Int) = 100000 := rfl
  unfold fX12_names_215
  have := i32_rng x5
  have := i32_rng x6
  have := i32_rng x9
  have : (0 : Int32).toInt = 0 := by decide
  exact sX12_names_216 k82 σ x1 x3 x4 x5 x6 x7 x8 x9 0 hI (by omega) (by omega) (by omega) (by omega) (by omega) (by omega) (by omega) (by omega) (by omega) (by omega) (by omega) (by omega) (by omega) (by omega) (fun y0 y1 y2 y3 y4 y5 y6 y7 q0 q1 q2 q3 q4 q5 q6 q7 q8 q9 q10 q11 q12 => hk82 y0 y1 y2 y3 y4 y5 y6 y7 q0 q1 q2 q3 q4 q5 q6 q7 q8 q9 q10 q11 (by omega))

theorem sX12_names_197 {g : Nat} (k82 : S2 → Int32 → Int32 → Int32 → Int32 → Int32 → Int32 → Int32 → Option (Int32 × S2)) (σ : S2) (x1 : Int32) (x3 : Int32) (x4 : Int32) (x5 : Int32) (x6 : Int32) (x7 : Int32) (x8 : Int32) (x9 : Int32) (hI : IvM g σ) (p9000 : 0 ≤ x1.toInt) (p9001 : x1.toInt ≤ 5) (p9002 : 1 ≤ x3.toInt) (p9003 : x3.toInt ≤ 20) (p9004 : 0 ≤ x4.toInt) (p9005 : x4.toInt ≤ 60) (p9006 : 0 ≤ x5.toInt) (p9007 : 0 ≤ x7.toInt) (p9008 : x7.toInt ≤ 1) (p9009 : 0 ≤ x8.toInt) (p9010 : x8.toInt ≤ 19) (p9011 : (x7.toInt = 0 ∨ (1 ≤ x9.toInt ∧ x9.toInt ≤ 6 ∧ x5.toInt + x9.toInt < x4.toInt))) (hk82 : ∀ (y0 : S2) (y1 : Int32) (y2 : Int32) (y3 : Int32) (y4 : Int32) (y5 : Int32) (y6 : Int32) (y7 : Int32), IvM g y0 → 0 ≤ y1.toInt → y1.toInt ≤ 5 → 1 ≤ y2.toInt → y2.toInt ≤ 20 → 0 ≤ y3.toInt → y3.toInt ≤ 60 → 0 ≤ y4.toInt → 0 ≤ y6.toInt → y6.toInt ≤ 1 → 0 ≤ y7.toInt → y7.toInt ≤ 20 → x8.toInt + 1 ≤ y7.toInt → Ok (fun z => IvM g z.2) (k82 y0 y1 y2 y3 y4 y5 y6 y7)) : Ok (fun z => IvM g z.2) (fX12_names_197 k82 σ x1 x3 x4 x5 x6 x7 x8 x9) := by
  have hFU : ((FU : Nat) : Int) = 100000 := rfl
  unfold fX12_names_197
  have : (0 : Int32).toInt = 0 := by decide
  refine ok_eq (fun h1 => ?_) (fun h1 => ?_)
  · have := i32_rng x5
    have := i32_rng x6
    have := i32_rng x9
    exact sX12_names_215 k82 σ x1 x3 x4 x5 x6 x7 x8 x9 hI (by omega) (by omega) (by omega) (by omega) (by omega) (by omega) (by omega) (by omega) (by omega) (by omega) (by omega) (by omega) (fun y0 y1 y2 y3 y4 y5 y6 y7 q0 q1 q2 q3 q4 q5 q6 q7 q8 q9 q10 q11 q12 => hk82 y0 y1 y2 y3 y4 y5 y6 y7 q0 q1 q2 q3 q4 q5 q6 q7 q8 q9 q10 q11 (by omega))
  · have := i32_rng x9
    refine ok_bi (sX12_found σ x9 hI (by omega) (by omega)) (fun r7 hr2 => ?_)
    obtain ⟨p3, p4⟩ := hr2
    have p3 : (-1) ≤ r7.toInt := p3
    have p4 : r7.toInt ≤ 39 := p4
    refine ok_le (fun h5 => ?_) (fun h5 => ?_)
    · have := i32_rng x5
      have := i32_rng x6
      exact sX12_names_215 k82 σ x1 x3 x4 x5 x6 x7 x8 x9 hI (by omega) (by omega) (by omega) (by omega) (by omega) (by omega) (by omega) (by omega) (by omega) (by omega) (by omega) (by omega) (fun y0 y1 y2 y3 y4 y5 y6 y7 q0 q1 q2 q3 q4 q5 q6 q7 q8 q9 q10 q11 q12 => hk82 y0 y1 y2 y3 y4 y5 y6 y7 q0 q1 q2 q3 q4 q5 q6 q7 q8 q9 q10 q11 (by omega))
    · have := i32_rng x5
      have := i32_rng x6
      have : (1 : Int32).toInt = 1 := by decide
      exact sX12_names_216 k82 σ x1 x3 x4 x5 x6 x7 x8 x9 1 hI (by omega) (by omega) (by omega) (by omega) (by omega) (by omega) (by omega) (by omega) (by omega) (by omega) (by omega) (by omega) (by omega) (by omega) (fun y0 y1 y2 y3 y4 y5 y6 y7 q0 q1 q2 q3 q4 q5 q6 q7 q8 q9 q10 q11 q12 => hk82 y0 y1 y2 y3 y4 y5 y6 y7 q0 q1 q2 q3 q4 q5 q6 q7 q8 q9 q10 q11 (by omega))

theorem sX12_names_150 {g : Nat} (k82 : S2 → Int32 → Int32 → Int32 → Int32 → Int32 → Int32 → Int32 → Option (Int32 × S2)) : ∀ (n : Nat) (σ : S2) (x1 : Int32) (x3 : Int32) (x4 : Int32) (x5 : Int32) (x6 : Int32) (x7 : Int32) (x8 : Int32) (x9 : Int32) (x10 : Int32), IvM g σ → 0 ≤ x1.toInt → x1.toInt ≤ 5 → 1 ≤ x3.toInt → x3.toInt ≤ 20 → 0 ≤ x4.toInt → x4.toInt ≤ 60 → 0 ≤ x5.toInt → 0 ≤ x7.toInt → x7.toInt ≤ 1 → 0 ≤ x8.toInt → x8.toInt ≤ 19 → 0 ≤ x10.toInt → x10.toInt ≤ 6 → (x7.toInt = 0 ∨ (1 ≤ x9.toInt ∧ x9.toInt ≤ 6 ∧ x5.toInt + x9.toInt < x4.toInt)) → 6 - x10.toInt < (n : Int) → (∀ (y0 : S2) (y1 : Int32) (y2 : Int32) (y3 : Int32) (y4 : Int32) (y5 : Int32) (y6 : Int32) (y7 : Int32), IvM g y0 → 0 ≤ y1.toInt → y1.toInt ≤ 5 → 1 ≤ y2.toInt → y2.toInt ≤ 20 → 0 ≤ y3.toInt → y3.toInt ≤ 60 → 0 ≤ y4.toInt → 0 ≤ y6.toInt → y6.toInt ≤ 1 → 0 ≤ y7.toInt → y7.toInt ≤ 20 → x8.toInt + 1 ≤ y7.toInt → Ok (fun z => IvM g z.2) (k82 y0 y1 y2 y3 y4 y5 y6 y7)) → Ok (fun z => IvM g z.2) (fX12_names_150 k82 n σ x1 x3 x4 x5 x6 x7 x8 x9 x10) := by
  have hFU : ((FU : Nat) : Int) = 100000 := rfl
  intro n
  induction n with
  | zero => intro σ x1 x3 x4 x5 x6 x7 x8 x9 x10 hI p9000 p9001 p9002 p9003 p9004 p9005 p9006 p9007 p9008 p9009 p9010 p9011 p9012 p9013 hm hk82; exfalso; omega
  | succ n ih =>
    intro σ x1 x3 x4 x5 x6 x7 x8 x9 x10 hI p9000 p9001 p9002 p9003 p9004 p9005 p9006 p9007 p9008 p9009 p9010 p9011 p9012 p9013 hm hk82
    unfold fX12_names_150
    have := i32_rng x9
    refine ok_le (fun h1 => ?_) (fun h1 => ?_)
    · have := i32_rng x5
      have := i32_rng x6
      exact sX12_names_197 k82 σ x1 x3 x4 x5 x6 x7 x8 x9 hI (by omega) (by omega) (by omega) (by omega) (by omega) (by omega) (by omega) (by omega) (by omega) (by omega) (by omega) (by omega) (fun y0 y1 y2 y3 y4 y5 y6 y7 q0 q1 q2 q3 q4 q5 q6 q7 q8 q9 q10 q11 q12 => hk82 y0 y1 y2 y3 y4 y5 y6 y7 q0 q1 q2 q3 q4 q5 q6 q7 q8 q9 q10 q11 (by omega))
    · have : (0 : Int32).toInt = 0 := by decide
      refine ok_eq (fun h2 => ?_) (fun h2 => ?_)
      · have := i32_rng x5
        have := i32_rng x6
        exact sX12_names_197 k82 σ x1 x3 x4 x5 x6 x7 x8 x9 hI (by omega) (by omega) (by omega) (by omega) (by omega) (by omega) (by omega) (by omega) (by omega) (by omega) (by omega) (by omega) (fun y0 y1 y2 y3 y4 y5 y6 y7 q0 q1 q2 q3 q4 q5 q6 q7 q8 q9 q10 q11 q12 => hk82 y0 y1 y2 y3 y4 y5 y6 y7 q0 q1 q2 q3 q4 q5 q6 q7 q8 q9 q10 q11 (by omega))
      · have : (60 : Int32).toInt = 60 := by decide
        have : ((60 * x1) : Int32).toInt = 60 * (x1 : Int32).toInt := i32_mulL (by omega) (by omega) (by omega)
        have : (((60 * x1) + x5) : Int32).toInt = ((60 * x1) : Int32).toInt + (x5 : Int32).toInt := i32_add (by omega) (by omega)
        have : (1 : Int32).toInt = 1 := by decide
        have : ((((60 * x1) + x5) + 1) : Int32).toInt = (((60 * x1) + x5) : Int32).toInt + (1 : Int32).toInt := i32_add (by omega) (by omega)
        have : (((((60 * x1) + x5) + 1) + x10) : Int32).toInt = ((((60 * x1) + x5) + 1) : Int32).toInt + (x10 : Int32).toInt := i32_add (by omega) (by omega)
        refine ok_ck (by omega) (by omega) ?_
        refine ok_nm (fun v9 _ => ?_)
        refine ok_ck (by omega) (by omega) ?_
        have := i32_rng (Int64.toInt32 v9)
        have : (255 : Int32).toInt = 255 := by decide
        have := i32_andR (a := (Int64.toInt32 v9)) (m := 255) (by omega)
        refine ok_nm (fun σ10 hs3 => ?_)
        have hI4 : IvM g σ10 := by rw [hs3]; exact IvM.wI hI rfl (show 0 ≤ (((Int64.toInt32 v9) &&& 255) : Int32).toInt by omega) (show (((Int64.toInt32 v9) &&& 255) : Int32).toInt ≤ 255 by omega)
        have : ((x10 + 1) : Int32).toInt = (x10 : Int32).toInt + (1 : Int32).toInt := i32_add (by omega) (by omega)
        refine ok_nmI (fun v11 hv11 he5 => ?_)
        have := i32_rng x6
        exact ih σ10 x1 x3 x4 x5 x6 x7 x8 x9 v11 hI4 (by omega) (by omega) (by omega) (by omega) (by omega) (by omega) (by omega) (by omega) (by omega) (by omega) (by omega) (by omega) (by omega) (by omega) (by omega) (fun y0 y1 y2 y3 y4 y5 y6 y7 q0 q1 q2 q3 q4 q5 q6 q7 q8 q9 q10 q11 q12 => hk82 y0 y1 y2 y3 y4 y5 y6 y7 q0 q1 q2 q3 q4 q5 q6 q7 q8 q9 q10 q11 (by omega))

theorem sX12_names_145 {g : Nat} (k82 : S2 → Int32 → Int32 → Int32 → Int32 → Int32 → Int32 → Int32 → Option (Int32 × S2)) (σ : S2) (x1 : Int32) (x3 : Int32) (x4 : Int32) (x5 : Int32) (x6 : Int32) (x8 : Int32) (x9 : Int32) (s0 : Int32) (hI : IvM g σ) (p9000 : 0 ≤ x1.toInt) (p9001 : x1.toInt ≤ 5) (p9002 : 1 ≤ x3.toInt) (p9003 : x3.toInt ≤ 20) (p9004 : 0 ≤ x4.toInt) (p9005 : x4.toInt ≤ 60) (p9006 : 0 ≤ x5.toInt) (p9007 : 0 ≤ x8.toInt) (p9008 : x8.toInt ≤ 19) (p9009 : 0 ≤ s0.toInt) (p9010 : s0.toInt ≤ 1) (p9011 : (s0.toInt = 0 ∨ (1 ≤ x9.toInt ∧ x9.toInt ≤ 6 ∧ x5.toInt + x9.toInt < x4.toInt))) (hk82 : ∀ (y0 : S2) (y1 : Int32) (y2 : Int32) (y3 : Int32) (y4 : Int32) (y5 : Int32) (y6 : Int32) (y7 : Int32), IvM g y0 → 0 ≤ y1.toInt → y1.toInt ≤ 5 → 1 ≤ y2.toInt → y2.toInt ≤ 20 → 0 ≤ y3.toInt → y3.toInt ≤ 60 → 0 ≤ y4.toInt → 0 ≤ y6.toInt → y6.toInt ≤ 1 → 0 ≤ y7.toInt → y7.toInt ≤ 20 → x8.toInt + 1 ≤ y7.toInt → Ok (fun z => IvM g z.2) (k82 y0 y1 y2 y3 y4 y5 y6 y7)) : Ok (fun z => IvM g z.2) (fX12_names_145 k82 σ x1 x3 x4 x5 x6 x8 x9 s0) := by
  have hFU : ((FU : Nat) : Int) = 100000 := rfl
  unfold fX12_names_145
  have := i32_rng x5
  have := i32_rng x6
  have := i32_rng x9
  have : (0 : Int32).toInt = 0 := by decide
  exact sX12_names_150 k82 FU σ x1 x3 x4 x5 x6 s0 x8 x9 0 hI (by omega) (by omega) (by omega) (by omega) (by omega) (by omega) (by omega) (by omega) (by omega) (by omega) (by omega) (by omega) (by omega) (by omega) (by omega) (fun y0 y1 y2 y3 y4 y5 y6 y7 q0 q1 q2 q3 q4 q5 q6 q7 q8 q9 q10 q11 q12 => hk82 y0 y1 y2 y3 y4 y5 y6 y7 q0 q1 q2 q3 q4 q5 q6 q7 q8 q9 q10 q11 (by omega))

theorem sX12_names_144 {g : Nat} (k82 : S2 → Int32 → Int32 → Int32 → Int32 → Int32 → Int32 → Int32 → Option (Int32 × S2)) (σ : S2) (x1 : Int32) (x3 : Int32) (x4 : Int32) (x5 : Int32) (x6 : Int32) (x8 : Int32) (x9 : Int32) (hI : IvM g σ) (p9000 : 0 ≤ x1.toInt) (p9001 : x1.toInt ≤ 5) (p9002 : 1 ≤ x3.toInt) (p9003 : x3.toInt ≤ 20) (p9004 : 0 ≤ x4.toInt) (p9005 : x4.toInt ≤ 60) (p9006 : 0 ≤ x5.toInt) (p9007 : 0 ≤ x8.toInt) (p9008 : x8.toInt ≤ 19) (hk82 : ∀ (y0 : S2) (y1 : Int32) (y2 : Int32) (y3 : Int32) (y4 : Int32) (y5 : Int32) (y6 : Int32) (y7 : Int32), IvM g y0 → 0 ≤ y1.toInt → y1.toInt ≤ 5 → 1 ≤ y2.toInt → y2.toInt ≤ 20 → 0 ≤ y3.toInt → y3.toInt ≤ 60 → 0 ≤ y4.toInt → 0 ≤ y6.toInt → y6.toInt ≤ 1 → 0 ≤ y7.toInt → y7.toInt ≤ 20 → x8.toInt + 1 ≤ y7.toInt → Ok (fun z => IvM g z.2) (k82 y0 y1 y2 y3 y4 y5 y6 y7)) : Ok (fun z => IvM g z.2) (fX12_names_144 k82 σ x1 x3 x4 x5 x6 x8 x9) := by
  have hFU : ((FU : Nat) : Int) = 100000 := rfl
  unfold fX12_names_144
  have := i32_rng x5
  have := i32_rng x6
  have := i32_rng x9
  have : (0 : Int32).toInt = 0 := by decide
  exact sX12_names_145 k82 σ x1 x3 x4 x5 x6 x8 x9 0 hI (by omega) (by omega) (by omega) (by omega) (by omega) (by omega) (by omega) (by omega) (by omega) (by omega) (by omega) (by omega) (fun y0 y1 y2 y3 y4 y5 y6 y7 q0 q1 q2 q3 q4 q5 q6 q7 q8 q9 q10 q11 q12 => hk82 y0 y1 y2 y3 y4 y5 y6 y7 q0 q1 q2 q3 q4 q5 q6 q7 q8 q9 q10 q11 (by omega))

theorem sX12_names_117 {g : Nat} (k82 : S2 → Int32 → Int32 → Int32 → Int32 → Int32 → Int32 → Int32 → Option (Int32 × S2)) (σ : S2) (x1 : Int32) (x3 : Int32) (x4 : Int32) (x5 : Int32) (x6 : Int32) (x8 : Int32) (s0 : Int32) (hI : IvM g σ) (p9000 : 0 ≤ x1.toInt) (p9001 : x1.toInt ≤ 5) (p9002 : 1 ≤ x3.toInt) (p9003 : x3.toInt ≤ 20) (p9004 : 0 ≤ x4.toInt) (p9005 : x4.toInt ≤ 60) (p9006 : 0 ≤ x5.toInt) (p9007 : 0 ≤ x8.toInt) (p9008 : x8.toInt ≤ 19) (p9009 : (s0.toInt = 0 ∨ x5.toInt < x4.toInt)) (hk82 : ∀ (y0 : S2) (y1 : Int32) (y2 : Int32) (y3 : Int32) (y4 : Int32) (y5 : Int32) (y6 : Int32) (y7 : Int32), IvM g y0 → 0 ≤ y1.toInt → y1.toInt ≤ 5 → 1 ≤ y2.toInt → y2.toInt ≤ 20 → 0 ≤ y3.toInt → y3.toInt ≤ 60 → 0 ≤ y4.toInt → 0 ≤ y6.toInt → y6.toInt ≤ 1 → 0 ≤ y7.toInt → y7.toInt ≤ 20 → x8.toInt + 1 ≤ y7.toInt → Ok (fun z => IvM g z.2) (k82 y0 y1 y2 y3 y4 y5 y6 y7)) : Ok (fun z => IvM g z.2) (fX12_names_117 k82 σ x1 x3 x4 x5 x6 x8 s0) := by
  have hFU : ((FU : Nat) : Int) = 100000 := rfl
  unfold fX12_names_117
  have := i32_rng s0
  have : (1 : Int32).toInt = 1 := by decide
  have : (6 : Int32).toInt = 6 := by decide
  refine ok_bi (sX12_in σ s0 1 6 hI (by omega) (by omega) (by omega) (by omega)) (fun r12 hr1 => ?_)
  obtain ⟨p2, p3, p4⟩ := hr1
  have p2 : 0 ≤ r12.toInt := p2
  have p3 : r12.toInt ≤ 1 := p3
  have p4 : r12.toInt ≠ 0 → (1 : Int32).toInt ≤ s0.toInt ∧ s0.toInt ≤ (6 : Int32).toInt := p4
  have : (0 : Int32).toInt = 0 := by decide
  refine ok_eq (fun h5 => ?_) (fun h5 => ?_)
  · have := i32_rng x5
    have := i32_rng x6
    exact sX12_names_144 k82 σ x1 x3 x4 x5 x6 x8 s0 hI (by omega) (by omega) (by omega) (by omega) (by omega) (by omega) (by omega) (by omega) (by omega) (fun y0 y1 y2 y3 y4 y5 y6 y7 q0 q1 q2 q3 q4 q5 q6 q7 q8 q9 q10 q11 q12 => hk82 y0 y1 y2 y3 y4 y5 y6 y7 q0 q1 q2 q3 q4 q5 q6 q7 q8 q9 q10 q11 (by omega))
  · have := i32_rng x5
    have : ((x5 + s0) : Int32).toInt = (x5 : Int32).toInt + (s0 : Int32).toInt := i32_add (by omega) (by omega)
    refine ok_le (fun h6 => ?_) (fun h6 => ?_)
    · have := i32_rng x6
      exact sX12_names_144 k82 σ x1 x3 x4 x5 x6 x8 s0 hI (by omega) (by omega) (by omega) (by omega) (by omega) (by omega) (by omega) (by omega) (by omega) (fun y0 y1 y2 y3 y4 y5 y6 y7 q0 q1 q2 q3 q4 q5 q6 q7 q8 q9 q10 q11 q12 => hk82 y0 y1 y2 y3 y4 y5 y6 y7 q0 q1 q2 q3 q4 q5 q6 q7 q8 q9 q10 q11 (by omega))
    · have := i32_rng x6
      exact sX12_names_145 k82 σ x1 x3 x4 x5 x6 x8 s0 1 hI (by omega) (by omega) (by omega) (by omega) (by omega) (by omega) (by omega) (by omega) (by omega) (by omega) (by omega) (by omega) (fun y0 y1 y2 y3 y4 y5 y6 y7 q0 q1 q2 q3 q4 q5 q6 q7 q8 q9 q10 q11 q12 => hk82 y0 y1 y2 y3 y4 y5 y6 y7 q0 q1 q2 q3 q4 q5 q6 q7 q8 q9 q10 q11 (by omega))

theorem sX12_names_82 {g : Nat} : ∀ (n : Nat) (σ : S2) (x1 : Int32) (x3 : Int32) (x4 : Int32) (x5 : Int32) (x6 : Int32) (x7 : Int32) (x8 : Int32), IvM g σ → 0 ≤ x1.toInt → x1.toInt ≤ 5 → 1 ≤ x3.toInt → x3.toInt ≤ 20 → 0 ≤ x4.toInt → x4.toInt ≤ 60 → 0 ≤ x5.toInt → 0 ≤ x7.toInt → x7.toInt ≤ 1 → 0 ≤ x8.toInt → x8.toInt ≤ 20 → 20 - x8.toInt < (n : Int) → Ok (fun z => IvM g z.2) (fX12_names_82 n σ x1 x3 x4 x5 x6 x7 x8) := by
  have hFU : ((FU : Nat) : Int) = 100000 := rfl
  intro n
  induction n with
  | zero => intro σ x1 x3 x4 x5 x6 x7 x8 hI p9000 p9001 p9002 p9003 p9004 p9005 p9006 p9007 p9008 p9009 p9010 hm; exfalso; omega
  | succ n ih =>
    intro σ x1 x3 x4 x5 x6 x7 x8 hI p9000 p9001 p9002 p9003 p9004 p9005 p9006 p9007 p9008 p9009 p9010 hm
    unfold fX12_names_82
    refine ok_le (fun h1 => ?_) (fun h1 => ?_)
    · have := i32_rng x6
      exact ok_some hI
    · have : (0 : Int32).toInt = 0 := by decide
      refine ok_eq (fun h2 => ?_) (fun h2 => ?_)
      · have := i32_rng x6
        exact ok_some hI
      · have := i32_rng x5
        refine ok_le (fun h3 => ?_) (fun h3 => ?_)
        · have := i32_rng x6
          exact sX12_names_117 (fX12_names_82 n) σ x1 x3 x4 x5 x6 x8 0 hI (by omega) (by omega) (by omega) (by omega) (by omega) (by omega) (by omega) (by omega) (by omega) (by omega) (fun y0 y1 y2 y3 y4 y5 y6 y7 q0 q1 q2 q3 q4 q5 q6 q7 q8 q9 q10 q11 q12 => ih y0 y1 y2 y3 y4 y5 y6 y7 q0 q1 q2 q3 q4 q5 q6 q7 q8 q9 q10 q11 (by omega))
        · have : (60 : Int32).toInt = 60 := by decide
          have : ((60 * x1) : Int32).toInt = 60 * (x1 : Int32).toInt := i32_mulL (by omega) (by omega) (by omega)
          have : (((60 * x1) + x5) : Int32).toInt = ((60 * x1) : Int32).toInt + (x5 : Int32).toInt := i32_add (by omega) (by omega)
          refine ok_ck (by omega) (by omega) ?_
          refine ok_nm (fun v14 _ => ?_)
          have := i32_rng x6
          have := i32_rng (Int64.toInt32 v14)
          exact sX12_names_117 (fX12_names_82 n) σ x1 x3 x4 x5 x6 x8 (Int64.toInt32 v14) hI (by omega) (by omega) (by omega) (by omega) (by omega) (by omega) (by omega) (by omega) (by omega) (by omega) (fun y0 y1 y2 y3 y4 y5 y6 y7 q0 q1 q2 q3 q4 q5 q6 q7 q8 q9 q10 q11 q12 => ih y0 y1 y2 y3 y4 y5 y6 y7 q0 q1 q2 q3 q4 q5 q6 q7 q8 q9 q10 q11 (by omega))

theorem sX12_names_71 {g : Nat} (σ : S2) (x1 : Int32) (x3 : Int32) (x4 : Int32) (s0 : Int32) (hI : IvM g σ) (p9000 : 0 ≤ x1.toInt) (p9001 : x1.toInt ≤ 5) (p9002 : 1 ≤ x3.toInt) (p9003 : x3.toInt ≤ 20) (p9004 : 0 ≤ x4.toInt) (p9005 : x4.toInt ≤ 60) (p9006 : 0 ≤ s0.toInt)  : Ok (fun z => IvM g z.2) (fX12_names_71 σ x1 x3 x4 s0) := by
  have hFU : ((FU : Nat) : Int) = 100000 := rfl
  unfold fX12_names_71
  have := i32_rng s0
  have : (0 : Int32).toInt = 0 := by decide
  have : (1 : Int32).toInt = 1 := by decide
  exact sX12_names_82 FU σ x1 x3 x4 s0 0 1 0 hI (by omega) (by omega) (by omega) (by omega) (by omega) (by omega) (by omega) (by omega) (by omega) (by omega) (by omega) (by omega)

theorem sX12_names_59 {g : Nat} (σ : S2) (x1 : Int32) (x2 : Int32) (x3 : Int32) (s0 : Int32) (hI : IvM g σ) (p9000 : 0 ≤ x1.toInt) (p9001 : x1.toInt ≤ 5) (p9002 : 1 ≤ x3.toInt) (p9003 : x3.toInt ≤ 20) (p9004 : 0 ≤ s0.toInt) (p9005 : s0.toInt ≤ 60)  : Ok (fun z => IvM g z.2) (fX12_names_59 σ x1 x2 x3 s0) := by
  have hFU : ((FU : Nat) : Int) = 100000 := rfl
  unfold fX12_names_59
  have : (0 : Int32).toInt = 0 := by decide
  have := i32_rng x2
  refine ok_le (fun h1 => ?_) (fun h1 => ?_)
  · exact sX12_names_71 σ x1 x3 s0 x2 hI (by omega) (by omega) (by omega) (by omega) (by omega) (by omega) (by omega)
  · exact sX12_names_71 σ x1 x3 s0 s0 hI (by omega) (by omega) (by omega) (by omega) (by omega) (by omega) (by omega)

theorem sX12_names_0 {g : Nat} (σ : S2) (x1 : Int32) (x2 : Int32) (x3 : Int32) (hI : IvM g σ)   : Ok (fun z => IvM g z.2) (fX12_names_0 σ x1 x2 x3) := by
  have hFU : ((FU : Nat) : Int) = 100000 := rfl
  unfold fX12_names_0
  have := i32_rng x1
  refine ok_bi (sX12_isShelf σ x1 hI) (fun r15 hr1 => ?_)
  obtain ⟨p2, p3, p4⟩ := hr1
  have p2 : 0 ≤ r15.toInt := p2
  have p3 : r15.toInt ≤ 1 := p3
  have p4 : r15.toInt ≠ 0 → 0 ≤ x1.toInt ∧ x1.toInt ≤ 5 := p4
  have : (0 : Int32).toInt = 0 := by decide
  refine ok_eq (fun h5 => ?_) (fun h5 => ?_)
  · have : ((-1) : Int32).toInt = (-1) := by decide
    exact ok_some hI
  · have := i32_rng x3
    have : (1 : Int32).toInt = 1 := by decide
    have : (20 : Int32).toInt = 20 := by decide
    refine ok_bi (sX12_in σ x3 1 20 hI (by omega) (by omega) (by omega) (by omega)) (fun r17 hr6 => ?_)
    obtain ⟨p7, p8, p9⟩ := hr6
    have p7 : 0 ≤ r17.toInt := p7
    have p8 : r17.toInt ≤ 1 := p8
    have p9 : r17.toInt ≠ 0 → (1 : Int32).toInt ≤ x3.toInt ∧ x3.toInt ≤ (20 : Int32).toInt := p9
    refine ok_eq (fun h10 => ?_) (fun h10 => ?_)
    · have : ((-1) : Int32).toInt = (-1) := by decide
      exact ok_some hI
    · refine ok_ck (by omega) (by omega) ?_
      have : (-1) ≤ (σ.1 30 (Int32.toNatClampNeg x1)).toInt ∧ (σ.1 30 (Int32.toNatClampNeg x1)).toInt ≤ 11 := hI.1 30 (Int32.toNatClampNeg x1)
      refine ok_nmI (fun v19 hv19 he11 => ?_)
      refine ok_le (fun h12 => ?_) (fun h12 => ?_)
      · have : ((-12) : Int32).toInt = (-12) := by decide
        exact ok_some hI
      · refine ok_ck (by omega) (by omega) ?_
        have : (-1) ≤ (σ.1 31 (Int32.toNatClampNeg x1)).toInt ∧ (σ.1 31 (Int32.toNatClampNeg x1)).toInt ≤ 4 := hI.1 31 (Int32.toNatClampNeg x1)
        refine ok_nmI (fun v20 hv20 he13 => ?_)
        refine ok_le (fun h14 => ?_) (fun h14 => ?_)
        · refine ok_ck (by omega) (by omega) ?_
          refine ok_nmI (fun v21 hv21 he15 => ?_)
          refine ok_eq (fun h16 => ?_) (fun h16 => ?_)
          · refine ok_ck (by omega) (by omega) ?_
            have : 0 ≤ (σ.1 32 (Int32.toNatClampNeg x1)).toInt ∧ (σ.1 32 (Int32.toNatClampNeg x1)).toInt ≤ 60 := hI.1 32 (Int32.toNatClampNeg x1)
            refine ok_nmI (fun v22 hv22 he17 => ?_)
            have := i32_rng x2
            exact sX12_names_59 σ x1 x2 x3 v22 hI (by omega) (by omega) (by omega) (by omega) (by omega) (by omega)
          · have := i32_rng x2
            exact sX12_names_59 σ x1 x2 x3 0 hI (by omega) (by omega) (by omega) (by omega) (by omega) (by omega)
        · have : ((-12) : Int32).toInt = (-12) := by decide
          exact ok_some hI

theorem sX12_names {g : Nat} (σ : S2) (a1 : Int32) (a2 : Int32) (a3 : Int32) (hI : IvM g σ)   : Ok (fun z => IvM g z.2) (fX12_names σ a1 a2 a3) := by
  unfold fX12_names
  exact sX12_names_0 σ a1 a2 a3 hI

theorem sX12_count_91 {g : Nat} (k70 : S2 → Int32 → Int32 → Int32 → Option Int32) (σ : S2) (x1 : Int32) (x3 : Int32) (s0 : Int32) (s1 : Int32) (s3 : Int32) (hI : IvM g σ) (p9000 : 4 ≤ x1.toInt) (p9001 : x1.toInt ≤ 5) (p9002 : 0 ≤ x3.toInt) (p9003 : x3.toInt ≤ 11) (p9004 : 0 ≤ s0.toInt) (p9005 : s0.toInt ≤ 1) (p9006 : 0 ≤ s1.toInt) (p9007 : s1.toInt ≤ 11) (hk70 : ∀ (y0 : S2) (y1 : Int32) (y2 : Int32) (y3 : Int32), IvM g y0 → 4 ≤ y1.toInt → y1.toInt ≤ 5 → 0 ≤ y3.toInt → y3.toInt ≤ 12 → x3.toInt + 1 ≤ y3.toInt → Ok (fun z => True) (k70 y0 y1 y2 y3)) : Ok (fun z => True) (fX12_count_91 k70 σ x1 x3 s0 s1 s3) := by
  have hFU : ((FU : Nat) : Int) = 100000 := rfl
  unfold fX12_count_91
  refine ok_bi (sX12_many σ s1 s0 hI (by omega) (by omega) (by omega) (by omega)) (fun r1 hr1 => ?_)
  have := i32_rng s3
  have := i32_rng r1
  have := i32_rng (s3 + r1)
  refine ok_nmI (fun v3 hv3 he2 => ?_)
  have : (1 : Int32).toInt = 1 := by decide
  have : ((x3 + 1) : Int32).toInt = (x3 : Int32).toInt + (1 : Int32).toInt := i32_add (by omega) (by omega)
  refine ok_nmI (fun v4 hv4 he3 => ?_)
  have := i32_rng v3
  exact hk70 σ x1 v3 v4 hI (by omega) (by omega) (by omega) (by omega) (by omega)

theorem sX12_count_70 {g : Nat} : ∀ (n : Nat) (σ : S2) (x1 : Int32) (x2 : Int32) (x3 : Int32), IvM g σ → 4 ≤ x1.toInt → x1.toInt ≤ 5 → 0 ≤ x3.toInt → x3.toInt ≤ 12 → 12 - x3.toInt < (n : Int) → Ok (fun z => True) (fX12_count_70 n σ x1 x2 x3) := by
  have hFU : ((FU : Nat) : Int) = 100000 := rfl
  intro n
  induction n with
  | zero => intro σ x1 x2 x3 hI p9000 p9001 p9002 p9003 hm; exfalso; omega
  | succ n ih =>
    intro σ x1 x2 x3 hI p9000 p9001 p9002 p9003 hm
    unfold fX12_count_70
    have : 0 ≤ (σ.1 0 3).toInt ∧ (σ.1 0 3).toInt ≤ 12 := hI.1 0 3
    refine ok_le (fun h1 => ?_) (fun h1 => ?_)
    · have := i32_rng x2
      exact ok_some trivial
    · have : (4 : Int32).toInt = 4 := by decide
      refine ok_eq (fun h2 => ?_) (fun h2 => ?_)
      · have : (1 : Int32).toInt = 1 := by decide
        have := i32_rng x2
        exact sX12_count_91 (fX12_count_70 n) σ x1 x3 1 x3 x2 hI (by omega) (by omega) (by omega) (by omega) (by omega) (by omega) (by omega) (by omega) (fun y0 y1 y2 y3 q0 q1 q2 q3 q4 q5 => ih y0 y1 y2 y3 q0 q1 q2 q3 q4 (by omega))
      · have : (0 : Int32).toInt = 0 := by decide
        have := i32_rng x2
        exact sX12_count_91 (fX12_count_70 n) σ x1 x3 0 x3 x2 hI (by omega) (by omega) (by omega) (by omega) (by omega) (by omega) (by omega) (by omega) (fun y0 y1 y2 y3 q0 q1 q2 q3 q4 q5 => ih y0 y1 y2 y3 q0 q1 q2 q3 q4 (by omega))

theorem sX12_count_0 {g : Nat} (σ : S2) (x1 : Int32) (hI : IvM g σ)   : Ok (fun z => True) (fX12_count_0 σ x1) := by
  have hFU : ((FU : Nat) : Int) = 100000 := rfl
  unfold fX12_count_0
  have := i32_rng x1
  have : (0 : Int32).toInt = 0 := by decide
  refine ok_eq (fun h1 => ?_) (fun h1 => ?_)
  · have : 0 ≤ (σ.1 0 0).toInt ∧ (σ.1 0 0).toInt ≤ 40 := hI.1 0 0
    exact ok_some trivial
  · have : (1 : Int32).toInt = 1 := by decide
    refine ok_eq (fun h2 => ?_) (fun h2 => ?_)
    · have : 0 ≤ (σ.1 0 3).toInt ∧ (σ.1 0 3).toInt ≤ 12 := hI.1 0 3
      exact ok_some trivial
    · have : (2 : Int32).toInt = 2 := by decide
      refine ok_eq (fun h3 => ?_) (fun h3 => ?_)
      · have : 0 ≤ (σ.1 0 9).toInt ∧ (σ.1 0 9).toInt ≤ 10 := hI.1 0 9
        exact ok_some trivial
      · have : (3 : Int32).toInt = 3 := by decide
        refine ok_eq (fun h4 => ?_) (fun h4 => ?_)
        · have : 0 ≤ (σ.1 0 22).toInt ∧ (σ.1 0 22).toInt ≤ 80 := hI.1 0 22
          exact ok_some trivial
        · have : (4 : Int32).toInt = 4 := by decide
          refine ok_eq (fun h5 => ?_) (fun h5 => ?_)
          · exact sX12_count_70 FU σ x1 0 0 hI (by omega) (by omega) (by omega) (by omega) (by omega)
          · have : (5 : Int32).toInt = 5 := by decide
            refine ok_eq (fun h6 => ?_) (fun h6 => ?_)
            · exact sX12_count_70 FU σ x1 0 0 hI (by omega) (by omega) (by omega) (by omega) (by omega)
            · have : (6 : Int32).toInt = 6 := by decide
              refine ok_eq (fun h7 => ?_) (fun h7 => ?_)
              · have := i32_rng (σ.1 0 29)
                exact ok_some trivial
              · have : (7 : Int32).toInt = 7 := by decide
                refine ok_eq (fun h8 => ?_) (fun h8 => ?_)
                · have : 0 ≤ (σ.1 0 38).toInt ∧ (σ.1 0 38).toInt ≤ 1000 := hI.1 0 38
                  exact ok_some trivial
                · have : ((-1) : Int32).toInt = (-1) := by decide
                  exact ok_some trivial

theorem sX12_count {g : Nat} (σ : S2) (a1 : Int32) (hI : IvM g σ)   : Ok (fun z => True) (fX12_count σ a1) := by
  unfold fX12_count
  exact sX12_count_0 σ a1 hI

