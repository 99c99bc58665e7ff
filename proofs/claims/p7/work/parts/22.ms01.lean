theorem sX12_one_0 {g : Nat} (t0 : Int) (o0 : Int) (n0 : Int) (b0 : Int) (w0 : S2) (r : Int) (qX12_sum : S2 → Option (Int32 × S2)) (qX12_product : S2 → Option (Int32 × S2)) (qX12_one : S2 → Option (Int32 × S2)) (hqX12_sum : ∀ (t0 : Int) (o0 : Int) (n0 : Int) (b0 : Int) (w0 : S2) (σ : S2), IvM g σ → (σ.1 0 9).toInt = t0 → (σ.1 0 46).toInt = o0 → (σ.1 0 3).toInt = n0 → b0 ≤ (σ.1 0 45).toInt → KeM w0 σ → 0 ≤ (r - 1) → 14 - 3 * o0 ≤ (r - 1) → Ok (fun z => IvM g z.2 ∧ (z.2.1 0 9).toInt = t0 ∧ (z.2.1 0 46).toInt = o0 ∧ (z.2.1 0 3).toInt = n0 ∧ b0 ≤ (z.2.1 0 45).toInt ∧ KeM w0 z.2) (qX12_sum σ)) (hqX12_product : ∀ (t0 : Int) (o0 : Int) (n0 : Int) (b0 : Int) (w0 : S2) (σ : S2), IvM g σ → (σ.1 0 9).toInt = t0 → (σ.1 0 46).toInt = o0 → (σ.1 0 3).toInt = n0 → b0 ≤ (σ.1 0 45).toInt → KeM w0 σ → 0 ≤ (r - 1) → 13 - 3 * o0 ≤ (r - 1) → Ok (fun z => IvM g z.2 ∧ (z.2.1 0 9).toInt = t0 ∧ (z.2.1 0 46).toInt = o0 ∧ (z.2.1 0 3).toInt = n0 ∧ b0 ≤ (z.2.1 0 45).toInt ∧ KeM w0 z.2) (qX12_product σ)) (hqX12_one : ∀ (t0 : Int) (o0 : Int) (n0 : Int) (b0 : Int) (w0 : S2) (σ : S2), IvM g σ → (σ.1 0 9).toInt = t0 → (σ.1 0 46).toInt = o0 → (σ.1 0 3).toInt = n0 → b0 ≤ (σ.1 0 45).toInt → KeM w0 σ → 0 ≤ (r - 1) → 12 - 3 * o0 ≤ (r - 1) → Ok (fun z => IvM g z.2 ∧ (z.2.1 0 9).toInt = t0 ∧ (z.2.1 0 46).toInt = o0 ∧ (z.2.1 0 3).toInt = n0 ∧ b0 ≤ (z.2.1 0 45).toInt ∧ KeM w0 z.2) (qX12_one σ)) (σ : S2) (hI : IvM g σ) (p9000 : (σ.1 0 9).toInt = t0) (p9001 : (σ.1 0 46).toInt = o0) (p9002 : (σ.1 0 3).toInt = n0) (p9003 : b0 ≤ (σ.1 0 45).toInt) (p9004 : KeM w0 σ) (p9005 : 0 ≤ r) (p9006 : 12 - 3 * o0 ≤ r)  : Ok (fun z => IvM g z.2 ∧ (z.2.1 0 9).toInt = t0 ∧ (z.2.1 0 46).toInt = o0 ∧ (z.2.1 0 3).toInt = n0 ∧ b0 ≤ (z.2.1 0 45).toInt ∧ KeM w0 z.2) (fX12_one_0 qX12_sum qX12_product qX12_one σ) := by
  have hFU : ((FU : Nat) : Int) = 100000 := rfl
  unfold fX12_one_0
  refine ok_bi (sX12_here σ hI) (fun r12 hr1 => ?_)
  obtain ⟨p2, p3, p4⟩ := hr1
  have p2 : (-1) ≤ r12.toInt := p2
  have p3 : r12.toInt ≤ 255 := p3
  have p4 : r12.toInt ≠ -1 → (σ.1 0 45).toInt ≤ 79 := p4
  have : 0 ≤ (σ.1 0 47).toInt ∧ (σ.1 0 47).toInt ≤ 1 := hI.1 0 47
  have : (0 : Int32).toInt = 0 := by decide
  refine ok_eq (fun h5 => ?_) (fun h5 => ?_)
  · have : (48 : Int32).toInt = 48 := by decide
    have : (57 : Int32).toInt = 57 := by decide
    refine ok_bi (sX12_in σ r12 48 57 hI (by omega) (by omega) (by omega) (by omega)) (fun r14 hr6 => ?_)
    obtain ⟨p7, p8, p9⟩ := hr6
    have p7 : 0 ≤ r14.toInt := p7
    have p8 : r14.toInt ≤ 1 := p8
    have p9 : r14.toInt ≠ 0 → (48 : Int32).toInt ≤ r12.toInt ∧ r12.toInt ≤ (57 : Int32).toInt := p9
    refine ok_eq (fun h10 => ?_) (fun h10 => ?_)
    · have : (40 : Int32).toInt = 40 := by decide
      refine ok_eq (fun h11 => ?_) (fun h11 => ?_)
      · have : (4 : Int32).toInt = 4 := by decide
        have : 0 ≤ (σ.1 0 46).toInt ∧ (σ.1 0 46).toInt ≤ 4 := hI.1 0 46
        refine ok_le (fun h12 => ?_) (fun h12 => ?_)
        · have : 0 ≤ (σ.1 0 9).toInt ∧ (σ.1 0 9).toInt ≤ 10 := hI.1 0 9
          have : 0 ≤ (σ.1 0 3).toInt ∧ (σ.1 0 3).toInt ≤ 12 := hI.1 0 3
          have : 0 ≤ (σ.1 0 45).toInt ∧ (σ.1 0 45).toInt ≤ 80 := hI.1 0 45
          exact sX12_one_136 t0 o0 n0 b0 w0 r qX12_sum qX12_product qX12_one hqX12_sum hqX12_product hqX12_one σ r12 hI (by omega) (by omega) (by omega) (by omega) (by omega) (by omega) (by first | assumption | exact KeM.rf _) (by omega) (by omega) (by omega)
        · have : (1 : Int32).toInt = 1 := by decide
          have : (((σ.1 0 46) + 1) : Int32).toInt = ((σ.1 0 46) : Int32).toInt + (1 : Int32).toInt := i32_add (by omega) (by omega)
          refine ok_nm (fun σ16 hs13 => ?_)
          have hI14 : IvM g σ16 := by rw [hs13]; exact IvM.wI hI rfl (show 0 ≤ (((σ.1 0 46) + 1) : Int32).toInt by omega) (show (((σ.1 0 46) + 1) : Int32).toInt ≤ 4 by omega)
          have : KeM w0 σ16 := by rw [hs13]; exact (show KeM w0 σ by assumption)
          have : (σ16.1 0 9).toInt = (σ.1 0 9).toInt := by rw [hs13]; rfl
          have : (σ16.1 0 45).toInt = (σ.1 0 45).toInt := by rw [hs13]; rfl
          have : (σ16.1 0 46).toInt = (((σ.1 0 46) + 1) : Int32).toInt := by rw [hs13]; rfl
          have : (σ16.1 0 47).toInt = (σ.1 0 47).toInt := by rw [hs13]; rfl
          have : (σ16.1 0 3).toInt = (σ.1 0 3).toInt := by rw [hs13]; rfl
          have : 0 ≤ (σ16.1 0 45).toInt ∧ (σ16.1 0 45).toInt ≤ 80 := hI14.1 0 45
          have : (((σ16.1 0 45) + 1) : Int32).toInt = ((σ16.1 0 45) : Int32).toInt + (1 : Int32).toInt := i32_add (by omega) (by omega)
          refine ok_nm (fun σ17 hs15 => ?_)
          have hI16 : IvM g σ17 := by rw [hs15]; exact IvM.wI hI14 rfl (show 0 ≤ (((σ16.1 0 45) + 1) : Int32).toInt by omega) (show (((σ16.1 0 45) + 1) : Int32).toInt ≤ 80 by omega)
          have : KeM w0 σ17 := by rw [hs15]; exact (show KeM w0 σ16 by assumption)
          have : (σ17.1 0 9).toInt = (σ16.1 0 9).toInt := by rw [hs15]; rfl
          have : (σ17.1 0 45).toInt = (((σ16.1 0 45) + 1) : Int32).toInt := by rw [hs15]; rfl
          have : (σ17.1 0 46).toInt = (σ16.1 0 46).toInt := by rw [hs15]; rfl
          have : (σ17.1 0 47).toInt = (σ16.1 0 47).toInt := by rw [hs15]; rfl
          have : (σ17.1 0 3).toInt = (σ16.1 0 3).toInt := by rw [hs15]; rfl
          have : 0 ≤ (σ17.1 0 9).toInt ∧ (σ17.1 0 9).toInt ≤ 10 := hI16.1 0 9
          have : 0 ≤ (σ17.1 0 46).toInt ∧ (σ17.1 0 46).toInt ≤ 4 := hI16.1 0 46
          have : 0 ≤ (σ17.1 0 3).toInt ∧ (σ17.1 0 3).toInt ≤ 12 := hI16.1 0 3
          have : 0 ≤ (σ17.1 0 45).toInt ∧ (σ17.1 0 45).toInt ≤ 80 := hI16.1 0 45
          refine ok_bs (hqX12_sum (σ17.1 0 9).toInt (σ17.1 0 46).toInt (σ17.1 0 3).toInt (σ17.1 0 45).toInt w0 σ17 hI16 (by omega) (by omega) (by omega) (by omega) (by first | assumption | exact KeM.rf _) (by omega) (by omega)) (fun r18 σ19 hr17 => ?_)
          obtain ⟨p18, p19, p20, p21, p22, p23⟩ := hr17
          have p18 : IvM g σ19 := p18
          have p19 : (σ19.1 0 9).toInt = (σ17.1 0 9).toInt := p19
          have p20 : (σ19.1 0 46).toInt = (σ17.1 0 46).toInt := p20
          have p21 : (σ19.1 0 3).toInt = (σ17.1 0 3).toInt := p21
          have p22 : (σ17.1 0 45).toInt ≤ (σ19.1 0 45).toInt := p22
          have p23 : KeM w0 σ19 := p23
          have : (41 : Int32).toInt = 41 := by decide
          have : 0 ≤ (σ19.1 0 9).toInt ∧ (σ19.1 0 9).toInt ≤ 10 := p18.1 0 9
          have : 0 ≤ (σ19.1 0 46).toInt ∧ (σ19.1 0 46).toInt ≤ 4 := p18.1 0 46
          have : 0 ≤ (σ19.1 0 3).toInt ∧ (σ19.1 0 3).toInt ≤ 12 := p18.1 0 3
          have : 0 ≤ (σ19.1 0 45).toInt ∧ (σ19.1 0 45).toInt ≤ 80 := p18.1 0 45
          refine ok_bs (sX12_eats (σ19.1 0 9).toInt (σ19.1 0 46).toInt (σ19.1 0 3).toInt (σ19.1 0 45).toInt w0 σ19 41 p18 (by omega) (by omega) (by omega) (by omega) (by omega) (by omega) (by first | assumption | exact KeM.rf _) (by omega)) (fun r21 σ22 hr24 => ?_)
          obtain ⟨p25, p26, p27, p28, p29, p30⟩ := hr24
          have p25 : IvM g σ22 := p25
          have p26 : (σ22.1 0 9).toInt = (σ19.1 0 9).toInt := p26
          have p27 : (σ22.1 0 46).toInt = (σ19.1 0 46).toInt := p27
          have p28 : (σ22.1 0 3).toInt = (σ19.1 0 3).toInt := p28
          have p29 : (σ19.1 0 45).toInt ≤ (σ22.1 0 45).toInt := p29
          have p30 : KeM w0 σ22 := p30
          have : 0 ≤ (σ22.1 0 46).toInt ∧ (σ22.1 0 46).toInt ≤ 4 := p25.1 0 46
          have : (((σ22.1 0 46) - 1) : Int32).toInt = ((σ22.1 0 46) : Int32).toInt - (1 : Int32).toInt := i32_sub (by omega) (by omega)
          refine ok_nm (fun σ24 hs31 => ?_)
          have hI32 : IvM g σ24 := by rw [hs31]; exact IvM.wI p25 rfl (show 0 ≤ (((σ22.1 0 46) - 1) : Int32).toInt by omega) (show (((σ22.1 0 46) - 1) : Int32).toInt ≤ 4 by omega)
          have : KeM w0 σ24 := by rw [hs31]; exact (show KeM w0 σ22 by assumption)
          have : (σ24.1 0 9).toInt = (σ22.1 0 9).toInt := by rw [hs31]; rfl
          have : (σ24.1 0 45).toInt = (σ22.1 0 45).toInt := by rw [hs31]; rfl
          have : (σ24.1 0 46).toInt = (((σ22.1 0 46) - 1) : Int32).toInt := by rw [hs31]; rfl
          have : (σ24.1 0 47).toInt = (σ22.1 0 47).toInt := by rw [hs31]; rfl
          have : (σ24.1 0 3).toInt = (σ22.1 0 3).toInt := by rw [hs31]; rfl
          have := i32_rng r18
          exact ok_some ⟨hI32, by show (σ24.1 0 9).toInt = t0; omega, by show (σ24.1 0 46).toInt = o0; omega, by show (σ24.1 0 3).toInt = n0; omega, by show b0 ≤ (σ24.1 0 45).toInt; omega, by show KeM w0 σ24; assumption⟩
      · have : 0 ≤ (σ.1 0 9).toInt ∧ (σ.1 0 9).toInt ≤ 10 := hI.1 0 9
        have : 0 ≤ (σ.1 0 46).toInt ∧ (σ.1 0 46).toInt ≤ 4 := hI.1 0 46
        have : 0 ≤ (σ.1 0 3).toInt ∧ (σ.1 0 3).toInt ≤ 12 := hI.1 0 3
        have : 0 ≤ (σ.1 0 45).toInt ∧ (σ.1 0 45).toInt ≤ 80 := hI.1 0 45
        exact sX12_one_136 t0 o0 n0 b0 w0 r qX12_sum qX12_product qX12_one hqX12_sum hqX12_product hqX12_one σ r12 hI (by omega) (by omega) (by omega) (by omega) (by omega) (by omega) (by first | assumption | exact KeM.rf _) (by omega) (by omega) (by omega)
    · have : 0 ≤ (σ.1 0 9).toInt ∧ (σ.1 0 9).toInt ≤ 10 := hI.1 0 9
      have : 0 ≤ (σ.1 0 46).toInt ∧ (σ.1 0 46).toInt ≤ 4 := hI.1 0 46
      have : 0 ≤ (σ.1 0 3).toInt ∧ (σ.1 0 3).toInt ≤ 12 := hI.1 0 3
      have : 0 ≤ (σ.1 0 45).toInt ∧ (σ.1 0 45).toInt ≤ 80 := hI.1 0 45
      exact sX12_one_29 t0 o0 n0 b0 w0 r qX12_sum qX12_product qX12_one hqX12_sum hqX12_product hqX12_one FU σ 0 0 hI (by omega) (by omega) (by omega) (by omega) (by omega) (by omega) (by first | assumption | exact KeM.rf _) (by omega) (by omega) (by omega)
  · exact ok_some ⟨hI, by show (σ.1 0 9).toInt = t0; omega, by show (σ.1 0 46).toInt = o0; omega, by show (σ.1 0 3).toInt = n0; omega, by show b0 ≤ (σ.1 0 45).toInt; omega, by show KeM w0 σ; assumption⟩

theorem sGX12_sum {g : Nat} : ∀ d : Nat, (∀ (r : Int) (t0 : Int) (o0 : Int) (n0 : Int) (b0 : Int) (w0 : S2) (σ : S2), r < (d : Int) → IvM g σ → (σ.1 0 9).toInt = t0 → (σ.1 0 46).toInt = o0 → (σ.1 0 3).toInt = n0 → b0 ≤ (σ.1 0 45).toInt → KeM w0 σ → 0 ≤ r → 14 - 3 * o0 ≤ r → Ok (fun z => IvM g z.2 ∧ (z.2.1 0 9).toInt = t0 ∧ (z.2.1 0 46).toInt = o0 ∧ (z.2.1 0 3).toInt = n0 ∧ b0 ≤ (z.2.1 0 45).toInt ∧ KeM w0 z.2) (GX12_sum d 0 σ)) ∧ (∀ (r : Int) (t0 : Int) (o0 : Int) (n0 : Int) (b0 : Int) (w0 : S2) (σ : S2), r < (d : Int) → IvM g σ → (σ.1 0 9).toInt = t0 → (σ.1 0 46).toInt = o0 → (σ.1 0 3).toInt = n0 → b0 ≤ (σ.1 0 45).toInt → KeM w0 σ → 0 ≤ r → 13 - 3 * o0 ≤ r → Ok (fun z => IvM g z.2 ∧ (z.2.1 0 9).toInt = t0 ∧ (z.2.1 0 46).toInt = o0 ∧ (z.2.1 0 3).toInt = n0 ∧ b0 ≤ (z.2.1 0 45).toInt ∧ KeM w0 z.2) (GX12_sum d 1 σ)) ∧ (∀ (r : Int) (t0 : Int) (o0 : Int) (n0 : Int) (b0 : Int) (w0 : S2) (σ : S2), r < (d : Int) → IvM g σ → (σ.1 0 9).toInt = t0 → (σ.1 0 46).toInt = o0 → (σ.1 0 3).toInt = n0 → b0 ≤ (σ.1 0 45).toInt → KeM w0 σ → 0 ≤ r → 12 - 3 * o0 ≤ r → Ok (fun z => IvM g z.2 ∧ (z.2.1 0 9).toInt = t0 ∧ (z.2.1 0 46).toInt = o0 ∧ (z.2.1 0 3).toInt = n0 ∧ b0 ≤ (z.2.1 0 45).toInt ∧ KeM w0 z.2) (GX12_sum d 2 σ)) := by
  intro d
  induction d with
  | zero => exact ⟨(fun r t0 o0 n0 b0 w0 σ hd hI p0 p1 p2 p3 p4 p5 p6 => by exfalso; omega), (fun r t0 o0 n0 b0 w0 σ hd hI p0 p1 p2 p3 p4 p5 p6 => by exfalso; omega), (fun r t0 o0 n0 b0 w0 σ hd hI p0 p1 p2 p3 p4 p5 p6 => by exfalso; omega)⟩
  | succ d ih =>
    exact ⟨(fun r t0 o0 n0 b0 w0 σ hd hI p0 p1 p2 p3 p4 p5 p6 => sX12_sum_0 t0 o0 n0 b0 w0 r (GX12_sum d 0) (GX12_sum d 1) (GX12_sum d 2) (fun t0 o0 n0 b0 w0 σ hI p0 p1 p2 p3 p4 p5 p6 => ih.1 (r - 1) t0 o0 n0 b0 w0 σ (by omega) hI p0 p1 p2 p3 p4 p5 p6) (fun t0 o0 n0 b0 w0 σ hI p0 p1 p2 p3 p4 p5 p6 => ih.2.1 (r - 1) t0 o0 n0 b0 w0 σ (by omega) hI p0 p1 p2 p3 p4 p5 p6) (fun t0 o0 n0 b0 w0 σ hI p0 p1 p2 p3 p4 p5 p6 => ih.2.2 (r - 1) t0 o0 n0 b0 w0 σ (by omega) hI p0 p1 p2 p3 p4 p5 p6) σ hI p0 p1 p2 p3 p4 p5 p6), (fun r t0 o0 n0 b0 w0 σ hd hI p0 p1 p2 p3 p4 p5 p6 => sX12_product_0 t0 o0 n0 b0 w0 r (GX12_sum d 0) (GX12_sum d 1) (GX12_sum d 2) (fun t0 o0 n0 b0 w0 σ hI p0 p1 p2 p3 p4 p5 p6 => ih.1 (r - 1) t0 o0 n0 b0 w0 σ (by omega) hI p0 p1 p2 p3 p4 p5 p6) (fun t0 o0 n0 b0 w0 σ hI p0 p1 p2 p3 p4 p5 p6 => ih.2.1 (r - 1) t0 o0 n0 b0 w0 σ (by omega) hI p0 p1 p2 p3 p4 p5 p6) (fun t0 o0 n0 b0 w0 σ hI p0 p1 p2 p3 p4 p5 p6 => ih.2.2 (r - 1) t0 o0 n0 b0 w0 σ (by omega) hI p0 p1 p2 p3 p4 p5 p6) σ hI p0 p1 p2 p3 p4 p5 p6), (fun r t0 o0 n0 b0 w0 σ hd hI p0 p1 p2 p3 p4 p5 p6 => sX12_one_0 t0 o0 n0 b0 w0 r (GX12_sum d 0) (GX12_sum d 1) (GX12_sum d 2) (fun t0 o0 n0 b0 w0 σ hI p0 p1 p2 p3 p4 p5 p6 => ih.1 (r - 1) t0 o0 n0 b0 w0 σ (by omega) hI p0 p1 p2 p3 p4 p5 p6) (fun t0 o0 n0 b0 w0 σ hI p0 p1 p2 p3 p4 p5 p6 => ih.2.1 (r - 1) t0 o0 n0 b0 w0 σ (by omega) hI p0 p1 p2 p3 p4 p5 p6) (fun t0 o0 n0 b0 w0 σ hI p0 p1 p2 p3 p4 p5 p6 => ih.2.2 (r - 1) t0 o0 n0 b0 w0 σ (by omega) hI p0 p1 p2 p3 p4 p5 p6) σ hI p0 p1 p2 p3 p4 p5 p6)⟩
theorem sX12_sum {g : Nat} (t0 : Int) (o0 : Int) (n0 : Int) (b0 : Int) (w0 : S2) (σ : S2) (hI : IvM g σ) (p9000 : (σ.1 0 9).toInt = t0) (p9001 : (σ.1 0 46).toInt = o0) (p9002 : (σ.1 0 3).toInt = n0) (p9003 : b0 ≤ (σ.1 0 45).toInt) (p9004 : KeM w0 σ) : Ok (fun z => IvM g z.2 ∧ (z.2.1 0 9).toInt = t0 ∧ (z.2.1 0 46).toInt = o0 ∧ (z.2.1 0 3).toInt = n0 ∧ b0 ≤ (z.2.1 0 45).toInt ∧ KeM w0 z.2) (fX12_sum σ) := by
  have : 0 ≤ (σ.1 0 9).toInt ∧ (σ.1 0 9).toInt ≤ 10 := hI.1 0 9
  have : 0 ≤ (σ.1 0 46).toInt ∧ (σ.1 0 46).toInt ≤ 4 := hI.1 0 46
  have : 0 ≤ (σ.1 0 3).toInt ∧ (σ.1 0 3).toInt ≤ 12 := hI.1 0 3
  have : 0 ≤ (σ.1 0 45).toInt ∧ (σ.1 0 45).toInt ≤ 80 := hI.1 0 45
  exact (sGX12_sum 24).1 23 t0 o0 n0 b0 w0 σ (by decide) hI p9000 p9001 p9002 p9003 p9004 (by omega) (by omega)

theorem sX12_product {g : Nat} (t0 : Int) (o0 : Int) (n0 : Int) (b0 : Int) (w0 : S2) (σ : S2) (hI : IvM g σ) (p9000 : (σ.1 0 9).toInt = t0) (p9001 : (σ.1 0 46).toInt = o0) (p9002 : (σ.1 0 3).toInt = n0) (p9003 : b0 ≤ (σ.1 0 45).toInt) (p9004 : KeM w0 σ) : Ok (fun z => IvM g z.2 ∧ (z.2.1 0 9).toInt = t0 ∧ (z.2.1 0 46).toInt = o0 ∧ (z.2.1 0 3).toInt = n0 ∧ b0 ≤ (z.2.1 0 45).toInt ∧ KeM w0 z.2) (fX12_product σ) := by
  have : 0 ≤ (σ.1 0 9).toInt ∧ (σ.1 0 9).toInt ≤ 10 := hI.1 0 9
  have : 0 ≤ (σ.1 0 46).toInt ∧ (σ.1 0 46).toInt ≤ 4 := hI.1 0 46
  have : 0 ≤ (σ.1 0 3).toInt ∧ (σ.1 0 3).toInt ≤ 12 := hI.1 0 3
  have : 0 ≤ (σ.1 0 45).toInt ∧ (σ.1 0 45).toInt ≤ 80 := hI.1 0 45
  exact (sGX12_sum 24).2.1 23 t0 o0 n0 b0 w0 σ (by decide) hI p9000 p9001 p9002 p9003 p9004 (by omega) (by omega)

theorem sX12_one {g : Nat} (t0 : Int) (o0 : Int) (n0 : Int) (b0 : Int) (w0 : S2) (σ : S2) (hI : IvM g σ) (p9000 : (σ.1 0 9).toInt = t0) (p9001 : (σ.1 0 46).toInt = o0) (p9002 : (σ.1 0 3).toInt = n0) (p9003 : b0 ≤ (σ.1 0 45).toInt) (p9004 : KeM w0 σ) : Ok (fun z => IvM g z.2 ∧ (z.2.1 0 9).toInt = t0 ∧ (z.2.1 0 46).toInt = o0 ∧ (z.2.1 0 3).toInt = n0 ∧ b0 ≤ (z.2.1 0 45).toInt ∧ KeM w0 z.2) (fX12_one σ) := by
  have : 0 ≤ (σ.1 0 9).toInt ∧ (σ.1 0 9).toInt ≤ 10 := hI.1 0 9
  have : 0 ≤ (σ.1 0 46).toInt ∧ (σ.1 0 46).toInt ≤ 4 := hI.1 0 46
  have : 0 ≤ (σ.1 0 3).toInt ∧ (σ.1 0 3).toInt ≤ 12 := hI.1 0 3
  have : 0 ≤ (σ.1 0 45).toInt ∧ (σ.1 0 45).toInt ≤ 80 := hI.1 0 45
  exact (sGX12_sum 24).2.2 23 t0 o0 n0 b0 w0 σ (by decide) hI p9000 p9001 p9002 p9003 p9004 (by omega) (by omega)

theorem sX12_held_0 {g : Nat} (σ : S2) (x0 : Int32) (hI : IvM g σ)   : Ok (fun z => 1 ≤ z.toInt ∧ z.toInt ≤ 4) (fX12_held_0 σ x0) := by
  have hFU : ((FU : Nat) : Int) = 100000 := rfl
  unfold fX12_held_0
  have : (1 : Int32).toInt = 1 := by decide
  have := i32_rng x0
  refine ok_le (fun h1 => ?_) (fun h1 => ?_)
  · have : (4 : Int32).toInt = 4 := by decide
    refine ok_le (fun h2 => ?_) (fun h2 => ?_)
    · exact ok_some ⟨by show 1 ≤ x0.toInt; omega, by show x0.toInt ≤ 4; omega⟩
    · exact ok_some ⟨by show 1 ≤ (4 : Int32).toInt; omega, by show (4 : Int32).toInt ≤ 4; omega⟩
  · exact ok_some ⟨by show 1 ≤ (1 : Int32).toInt; omega, by show (1 : Int32).toInt ≤ 4; omega⟩

theorem sX12_held {g : Nat} (σ : S2) (a0 : Int32) (hI : IvM g σ)   : Ok (fun z => 1 ≤ z.toInt ∧ z.toInt ≤ 4) (fX12_held σ a0) := by
  unfold fX12_held
  exact sX12_held_0 σ a0 hI

theorem sX12_reads_338 {g : Nat} (t0 : Int) (n0 : Int) (w0 : S2) (σ : S2) (hI : IvM g σ) (p9000 : (σ.1 0 9).toInt = t0) (p9001 : (σ.1 0 3).toInt = n0) (p9002 : KeM w0 σ)  : Ok (fun z => IvM g z.2 ∧ (-1) ≤ z.1.toInt ∧ z.1.toInt ≤ 80 ∧ (z.2.1 0 9).toInt = t0 ∧ (z.2.1 0 3).toInt = n0 ∧ KeM w0 z.2) (fX12_reads_338 σ) := by
  have hFU : ((FU : Nat) : Int) = 100000 := rfl
  unfold fX12_reads_338
  have : 0 ≤ (σ.1 0 45).toInt ∧ (σ.1 0 45).toInt ≤ 80 := hI.1 0 45
  exact ok_some ⟨hI, by show (-1) ≤ (σ.1 0 45).toInt; omega, by show (σ.1 0 45).toInt ≤ 80; omega, by show (σ.1 0 9).toInt = t0; omega, by show (σ.1 0 3).toInt = n0; omega, by show KeM w0 σ; assumption⟩

theorem sX12_reads_311 {g : Nat} (t0 : Int) (n0 : Int) (w0 : S2) (k45 : S2 → Int32 → Int32 → Int32 → Option (Int32 × S2)) (σ : S2) (x1 : Int32) (x2 : Int32) (x3 : Int32) (s0 : Int32) (s1 : Int32) (hI : IvM g σ) (p9000 : 0 ≤ x1.toInt) (p9001 : x1.toInt ≤ 10) (p9002 : 0 ≤ x2.toInt) (p9003 : x2.toInt ≤ 7) (p9004 : 0 ≤ x3.toInt) (p9005 : x3.toInt ≤ 1) (p9006 : 0 ≤ s0.toInt) (p9007 : s0.toInt ≤ 1) (p9008 : 0 ≤ s1.toInt) (p9009 : s1.toInt ≤ 80) (p9010 : (σ.1 0 9).toInt = t0) (p9011 : (σ.1 0 3).toInt = n0) (p9012 : KeM w0 σ) (p9013 : s0.toInt = x3.toInt) (p9014 : (s0.toInt = 0 ∨ s1.toInt ≤ 79)) (hk45 : ∀ (y0 : S2) (y1 : Int32) (y2 : Int32) (y3 : Int32), IvM g y0 → 0 ≤ y1.toInt → y1.toInt ≤ 10 → 0 ≤ y2.toInt → y2.toInt ≤ 7 → 0 ≤ y3.toInt → y3.toInt ≤ 1 → (y0.1 0 9).toInt = t0 → (y0.1 0 3).toInt = n0 → KeM w0 y0 → s1.toInt + 1 ≤ (y0.1 0 45).toInt + 1 - y3.toInt → Ok (fun z => IvM g z.2 ∧ (-1) ≤ z.1.toInt ∧ z.1.toInt ≤ 80 ∧ (z.2.1 0 9).toInt = t0 ∧ (z.2.1 0 3).toInt = n0 ∧ KeM w0 z.2) (k45 y0 y1 y2 y3)) : Ok (fun z => IvM g z.2 ∧ (-1) ≤ z.1.toInt ∧ z.1.toInt ≤ 80 ∧ (z.2.1 0 9).toInt = t0 ∧ (z.2.1 0 3).toInt = n0 ∧ KeM w0 z.2) (fX12_reads_311 k45 σ x1 x2 x3 s0 s1) := by
  have hFU : ((FU : Nat) : Int) = 100000 := rfl
  unfold fX12_reads_311
  have : ((s1 + s0) : Int32).toInt = (s1 : Int32).toInt + (s0 : Int32).toInt := i32_add (by omega) (by omega)
  refine ok_nm (fun σ1 hs1 => ?_)
  have hI2 : IvM g σ1 := by rw [hs1]; exact IvM.wI hI rfl (show 0 ≤ ((s1 + s0) : Int32).toInt by omega) (show ((s1 + s0) : Int32).toInt ≤ 80 by omega)
  have : KeM w0 σ1 := by rw [hs1]; exact (show KeM w0 σ by assumption)
  have : (σ1.1 0 9).toInt = (σ.1 0 9).toInt := by rw [hs1]; rfl
  have : (σ1.1 0 45).toInt = ((s1 + s0) : Int32).toInt := by rw [hs1]; rfl
  have : (σ1.1 0 47).toInt = (σ.1 0 47).toInt := by rw [hs1]; rfl
  have : (σ1.1 0 3).toInt = (σ.1 0 3).toInt := by rw [hs1]; rfl
  have : 0 ≤ (σ1.1 0 9).toInt ∧ (σ1.1 0 9).toInt ≤ 10 := hI2.1 0 9
  have : 0 ≤ (σ1.1 0 3).toInt ∧ (σ1.1 0 3).toInt ≤ 12 := hI2.1 0 3
  exact hk45 σ1 x1 x2 x3 hI2 (by omega) (by omega) (by omega) (by omega) (by omega) (by omega) (by omega) (by omega) (by first | assumption | exact KeM.rf _) (by omega)

theorem sX12_reads_296 {g : Nat} (t0 : Int) (n0 : Int) (w0 : S2) (k45 : S2 → Int32 → Int32 → Int32 → Option (Int32 × S2)) (σ : S2) (x1 : Int32) (x2 : Int32) (s0 : Int32) (hI : IvM g σ) (p9000 : 0 ≤ x1.toInt) (p9001 : x1.toInt ≤ 10) (p9002 : 0 ≤ x2.toInt) (p9003 : x2.toInt ≤ 7) (p9004 : 0 ≤ s0.toInt) (p9005 : s0.toInt ≤ 1) (p9006 : (σ.1 0 9).toInt = t0) (p9007 : (σ.1 0 3).toInt = n0) (p9008 : KeM w0 σ) (p9009 : (s0.toInt = 0 ∨ (σ.1 0 45).toInt ≤ 79)) (hk45 : ∀ (y0 : S2) (y1 : Int32) (y2 : Int32) (y3 : Int32), IvM g y0 → 0 ≤ y1.toInt → y1.toInt ≤ 10 → 0 ≤ y2.toInt → y2.toInt ≤ 7 → 0 ≤ y3.toInt → y3.toInt ≤ 1 → (y0.1 0 9).toInt = t0 → (y0.1 0 3).toInt = n0 → KeM w0 y0 → (σ.1 0 45).toInt + 1 ≤ (y0.1 0 45).toInt + 1 - y3.toInt → Ok (fun z => IvM g z.2 ∧ (-1) ≤ z.1.toInt ∧ z.1.toInt ≤ 80 ∧ (z.2.1 0 9).toInt = t0 ∧ (z.2.1 0 3).toInt = n0 ∧ KeM w0 z.2) (k45 y0 y1 y2 y3)) : Ok (fun z => IvM g z.2 ∧ (-1) ≤ z.1.toInt ∧ z.1.toInt ≤ 80 ∧ (z.2.1 0 9).toInt = t0 ∧ (z.2.1 0 3).toInt = n0 ∧ KeM w0 z.2) (fX12_reads_296 k45 σ x1 x2 s0) := by
  have hFU : ((FU : Nat) : Int) = 100000 := rfl
  unfold fX12_reads_296
  have : (0 : Int32).toInt = 0 := by decide
  refine ok_eq (fun h1 => ?_) (fun h1 => ?_)
  · have : 0 ≤ (σ.1 0 45).toInt ∧ (σ.1 0 45).toInt ≤ 80 := hI.1 0 45
    have : 0 ≤ (σ.1 0 9).toInt ∧ (σ.1 0 9).toInt ≤ 10 := hI.1 0 9
    have : 0 ≤ (σ.1 0 3).toInt ∧ (σ.1 0 3).toInt ≤ 12 := hI.1 0 3
    exact sX12_reads_311 t0 n0 w0 k45 σ x1 x2 s0 0 (σ.1 0 45) hI (by omega) (by omega) (by omega) (by omega) (by omega) (by omega) (by omega) (by omega) (by omega) (by omega) (by omega) (by omega) (by first | assumption | exact KeM.rf _) (by omega) (by omega) (fun y0 y1 y2 y3 q0 q1 q2 q3 q4 q5 q6 q7 q8 q9 q10 => hk45 y0 y1 y2 y3 q0 q1 q2 q3 q4 q5 q6 q7 q8 q9 (by omega))
  · have : (1 : Int32).toInt = 1 := by decide
    have : 0 ≤ (σ.1 0 45).toInt ∧ (σ.1 0 45).toInt ≤ 80 := hI.1 0 45
    have : 0 ≤ (σ.1 0 9).toInt ∧ (σ.1 0 9).toInt ≤ 10 := hI.1 0 9
    have : 0 ≤ (σ.1 0 3).toInt ∧ (σ.1 0 3).toInt ≤ 12 := hI.1 0 3
    exact sX12_reads_311 t0 n0 w0 k45 σ x1 x2 s0 1 (σ.1 0 45) hI (by omega) (by omega) (by omega) (by omega) (by omega) (by omega) (by omega) (by omega) (by omega) (by omega) (by omega) (by omega) (by first | assumption | exact KeM.rf _) (by omega) (by omega) (fun y0 y1 y2 y3 q0 q1 q2 q3 q4 q5 q6 q7 q8 q9 q10 => hk45 y0 y1 y2 y3 q0 q1 q2 q3 q4 q5 q6 q7 q8 q9 (by omega))

theorem sX12_reads_295 {g : Nat} (t0 : Int) (n0 : Int) (w0 : S2) (k45 : S2 → Int32 → Int32 → Int32 → Option (Int32 × S2)) (σ : S2) (x1 : Int32) (x2 : Int32) (hI : IvM g σ) (p9000 : 0 ≤ x1.toInt) (p9001 : x1.toInt ≤ 10) (p9002 : 0 ≤ x2.toInt) (p9003 : x2.toInt ≤ 7) (p9004 : (σ.1 0 9).toInt = t0) (p9005 : (σ.1 0 3).toInt = n0) (p9006 : KeM w0 σ) (hk45 : ∀ (y0 : S2) (y1 : Int32) (y2 : Int32) (y3 : Int32), IvM g y0 → 0 ≤ y1.toInt → y1.toInt ≤ 10 → 0 ≤ y2.toInt → y2.toInt ≤ 7 → 0 ≤ y3.toInt → y3.toInt ≤ 1 → (y0.1 0 9).toInt = t0 → (y0.1 0 3).toInt = n0 → KeM w0 y0 → (σ.1 0 45).toInt + 1 ≤ (y0.1 0 45).toInt + 1 - y3.toInt → Ok (fun z => IvM g z.2 ∧ (-1) ≤ z.1.toInt ∧ z.1.toInt ≤ 80 ∧ (z.2.1 0 9).toInt = t0 ∧ (z.2.1 0 3).toInt = n0 ∧ KeM w0 z.2) (k45 y0 y1 y2 y3)) : Ok (fun z => IvM g z.2 ∧ (-1) ≤ z.1.toInt ∧ z.1.toInt ≤ 80 ∧ (z.2.1 0 9).toInt = t0 ∧ (z.2.1 0 3).toInt = n0 ∧ KeM w0 z.2) (fX12_reads_295 k45 σ x1 x2) := by
  have hFU : ((FU : Nat) : Int) = 100000 := rfl
  unfold fX12_reads_295
  have : (0 : Int32).toInt = 0 := by decide
  have : 0 ≤ (σ.1 0 9).toInt ∧ (σ.1 0 9).toInt ≤ 10 := hI.1 0 9
  have : 0 ≤ (σ.1 0 3).toInt ∧ (σ.1 0 3).toInt ≤ 12 := hI.1 0 3
  exact sX12_reads_296 t0 n0 w0 k45 σ x1 x2 0 hI (by omega) (by omega) (by omega) (by omega) (by omega) (by omega) (by omega) (by omega) (by first | assumption | exact KeM.rf _) (by omega) (fun y0 y1 y2 y3 q0 q1 q2 q3 q4 q5 q6 q7 q8 q9 q10 => hk45 y0 y1 y2 y3 q0 q1 q2 q3 q4 q5 q6 q7 q8 q9 (by omega))

theorem sX12_reads_275 {g : Nat} (t0 : Int) (n0 : Int) (w0 : S2) (k45 : S2 → Int32 → Int32 → Int32 → Option (Int32 × S2)) (σ : S2) (x1 : Int32) (x2 : Int32) (hI : IvM g σ) (p9000 : 0 ≤ x1.toInt) (p9001 : x1.toInt ≤ 10) (p9002 : 0 ≤ x2.toInt) (p9003 : x2.toInt ≤ 7) (p9004 : (σ.1 0 9).toInt = t0) (p9005 : (σ.1 0 3).toInt = n0) (p9006 : KeM w0 σ) (hk45 : ∀ (y0 : S2) (y1 : Int32) (y2 : Int32) (y3 : Int32), IvM g y0 → 0 ≤ y1.toInt → y1.toInt ≤ 10 → 0 ≤ y2.toInt → y2.toInt ≤ 7 → 0 ≤ y3.toInt → y3.toInt ≤ 1 → (y0.1 0 9).toInt = t0 → (y0.1 0 3).toInt = n0 → KeM w0 y0 → (σ.1 0 45).toInt + 1 ≤ (y0.1 0 45).toInt + 1 - y3.toInt → Ok (fun z => IvM g z.2 ∧ (-1) ≤ z.1.toInt ∧ z.1.toInt ≤ 80 ∧ (z.2.1 0 9).toInt = t0 ∧ (z.2.1 0 3).toInt = n0 ∧ KeM w0 z.2) (k45 y0 y1 y2 y3)) : Ok (fun z => IvM g z.2 ∧ (-1) ≤ z.1.toInt ∧ z.1.toInt ≤ 80 ∧ (z.2.1 0 9).toInt = t0 ∧ (z.2.1 0 3).toInt = n0 ∧ KeM w0 z.2) (fX12_reads_275 k45 σ x1 x2) := by
  have hFU : ((FU : Nat) : Int) = 100000 := rfl
  unfold fX12_reads_275
  have : 0 ≤ (σ.1 0 47).toInt ∧ (σ.1 0 47).toInt ≤ 1 := hI.1 0 47
  have : (0 : Int32).toInt = 0 := by decide
  refine ok_eq (fun h1 => ?_) (fun h1 => ?_)
  · refine ok_bi (sX12_here σ hI) (fun r2 hr2 => ?_)
    obtain ⟨p3, p4, p5⟩ := hr2
    have p3 : (-1) ≤ r2.toInt := p3
    have p4 : r2.toInt ≤ 255 := p4
    have p5 : r2.toInt ≠ -1 → (σ.1 0 45).toInt ≤ 79 := p5
    have : (59 : Int32).toInt = 59 := by decide
    refine ok_eq (fun h6 => ?_) (fun h6 => ?_)
    · have : (1 : Int32).toInt = 1 := by decide
      have : 0 ≤ (σ.1 0 9).toInt ∧ (σ.1 0 9).toInt ≤ 10 := hI.1 0 9
      have : 0 ≤ (σ.1 0 3).toInt ∧ (σ.1 0 3).toInt ≤ 12 := hI.1 0 3
      exact sX12_reads_296 t0 n0 w0 k45 σ x1 x2 1 hI (by omega) (by omega) (by omega) (by omega) (by omega) (by omega) (by omega) (by omega) (by first | assumption | exact KeM.rf _) (by omega) (fun y0 y1 y2 y3 q0 q1 q2 q3 q4 q5 q6 q7 q8 q9 q10 => hk45 y0 y1 y2 y3 q0 q1 q2 q3 q4 q5 q6 q7 q8 q9 (by omega))
    · have : 0 ≤ (σ.1 0 9).toInt ∧ (σ.1 0 9).toInt ≤ 10 := hI.1 0 9
      have : 0 ≤ (σ.1 0 3).toInt ∧ (σ.1 0 3).toInt ≤ 12 := hI.1 0 3
      exact sX12_reads_295 t0 n0 w0 k45 σ x1 x2 hI (by omega) (by omega) (by omega) (by omega) (by omega) (by omega) (by first | assumption | exact KeM.rf _) (fun y0 y1 y2 y3 q0 q1 q2 q3 q4 q5 q6 q7 q8 q9 q10 => hk45 y0 y1 y2 y3 q0 q1 q2 q3 q4 q5 q6 q7 q8 q9 (by omega))
  · have : 0 ≤ (σ.1 0 9).toInt ∧ (σ.1 0 9).toInt ≤ 10 := hI.1 0 9
    have : 0 ≤ (σ.1 0 3).toInt ∧ (σ.1 0 3).toInt ≤ 12 := hI.1 0 3
    exact sX12_reads_295 t0 n0 w0 k45 σ x1 x2 hI (by omega) (by omega) (by omega) (by omega) (by omega) (by omega) (by first | assumption | exact KeM.rf _) (fun y0 y1 y2 y3 q0 q1 q2 q3 q4 q5 q6 q7 q8 q9 q10 => hk45 y0 y1 y2 y3 q0 q1 q2 q3 q4 q5 q6 q7 q8 q9 (by omega))

theorem sX12_reads_274 {g : Nat} (t0 : Int) (n0 : Int) (w0 : S2) (k45 : S2 → Int32 → Int32 → Int32 → Option (Int32 × S2)) (σ : S2) (x1 : Int32) (x2 : Int32) (s0 : Int32) (s1 : Int32) (hI : IvM g σ) (p9000 : 0 ≤ x1.toInt) (p9001 : x1.toInt ≤ 10) (p9002 : 0 ≤ x2.toInt) (p9003 : x2.toInt ≤ 7) (p9004 : 0 ≤ s0.toInt) (p9005 : s0.toInt ≤ 4) (p9006 : 0 ≤ s1.toInt) (p9007 : s1.toInt ≤ 10) (p9008 : (σ.1 0 9).toInt = t0) (p9009 : (σ.1 0 3).toInt = n0) (p9010 : KeM w0 σ) (hk45 : ∀ (y0 : S2) (y1 : Int32) (y2 : Int32) (y3 : Int32), IvM g y0 → 0 ≤ y1.toInt → y1.toInt ≤ 10 → 0 ≤ y2.toInt → y2.toInt ≤ 7 → 0 ≤ y3.toInt → y3.toInt ≤ 1 → (y0.1 0 9).toInt = t0 → (y0.1 0 3).toInt = n0 → KeM w0 y0 → (σ.1 0 45).toInt + 1 ≤ (y0.1 0 45).toInt + 1 - y3.toInt → Ok (fun z => IvM g z.2 ∧ (-1) ≤ z.1.toInt ∧ z.1.toInt ≤ 80 ∧ (z.2.1 0 9).toInt = t0 ∧ (z.2.1 0 3).toInt = n0 ∧ KeM w0 z.2) (k45 y0 y1 y2 y3)) : Ok (fun z => IvM g z.2 ∧ (-1) ≤ z.1.toInt ∧ z.1.toInt ≤ 80 ∧ (z.2.1 0 9).toInt = t0 ∧ (z.2.1 0 3).toInt = n0 ∧ KeM w0 z.2) (fX12_reads_274 k45 σ x1 x2 s0 s1) := by
  have hFU : ((FU : Nat) : Int) = 100000 := rfl
  unfold fX12_reads_274
  refine ok_ck (by omega) (by omega) ?_
  refine ok_nm (fun σ4 hs1 => ?_)
  have hI2 : IvM g σ4 := by rw [hs1]; exact IvM.wI hI rfl (show 0 ≤ (s0 : Int32).toInt by omega) (show (s0 : Int32).toInt ≤ 4 by omega)
  have : KeM w0 σ4 := by rw [hs1]; exact (show KeM w0 σ by assumption)
  have : (σ4.1 0 9).toInt = (σ.1 0 9).toInt := by rw [hs1]; rfl
  have : (σ4.1 0 45).toInt = (σ.1 0 45).toInt := by rw [hs1]; rfl
  have : (σ4.1 0 47).toInt = (σ.1 0 47).toInt := by rw [hs1]; rfl
  have : (σ4.1 0 3).toInt = (σ.1 0 3).toInt := by rw [hs1]; rfl
  have : 0 ≤ (σ4.1 0 9).toInt ∧ (σ4.1 0 9).toInt ≤ 10 := hI2.1 0 9
  have : 0 ≤ (σ4.1 0 3).toInt ∧ (σ4.1 0 3).toInt ≤ 12 := hI2.1 0 3
  exact sX12_reads_275 t0 n0 w0 k45 σ4 x1 x2 hI2 (by omega) (by omega) (by omega) (by omega) (by omega) (by omega) (by first | assumption | exact KeM.rf _) (fun y0 y1 y2 y3 q0 q1 q2 q3 q4 q5 q6 q7 q8 q9 q10 => hk45 y0 y1 y2 y3 q0 q1 q2 q3 q4 q5 q6 q7 q8 q9 (by omega))

theorem sX12_reads_251 {g : Nat} (t0 : Int) (n0 : Int) (w0 : S2) (k45 : S2 → Int32 → Int32 → Int32 → Option (Int32 × S2)) (σ : S2) (x1 : Int32) (x2 : Int32) (x5 : Int32) (x6 : Int32) (s0 : Int32) (s1 : Int32) (hI : IvM g σ) (p9000 : 0 ≤ x1.toInt) (p9001 : x1.toInt ≤ 10) (p9002 : 0 ≤ x2.toInt) (p9003 : x2.toInt ≤ 7) (p9004 : 0 ≤ x5.toInt) (p9005 : x5.toInt ≤ 3) (p9006 : 1 ≤ x6.toInt) (p9007 : x6.toInt ≤ 4) (p9008 : 0 ≤ s0.toInt) (p9009 : s0.toInt ≤ 4) (p9010 : 0 ≤ s1.toInt) (p9011 : s1.toInt ≤ 10) (p9012 : (σ.1 0 9).toInt = t0) (p9013 : (σ.1 0 3).toInt = n0) (p9014 : KeM w0 σ) (hk45 : ∀ (y0 : S2) (y1 : Int32) (y2 : Int32) (y3 : Int32), IvM g y0 → 0 ≤ y1.toInt → y1.toInt ≤ 10 → 0 ≤ y2.toInt → y2.toInt ≤ 7 → 0 ≤ y3.toInt → y3.toInt ≤ 1 → (y0.1 0 9).toInt = t0 → (y0.1 0 3).toInt = n0 → KeM w0 y0 → (σ.1 0 45).toInt + 1 ≤ (y0.1 0 45).toInt + 1 - y3.toInt → Ok (fun z => IvM g z.2 ∧ (-1) ≤ z.1.toInt ∧ z.1.toInt ≤ 80 ∧ (z.2.1 0 9).toInt = t0 ∧ (z.2.1 0 3).toInt = n0 ∧ KeM w0 z.2) (k45 y0 y1 y2 y3)) : Ok (fun z => IvM g z.2 ∧ (-1) ≤ z.1.toInt ∧ z.1.toInt ≤ 80 ∧ (z.2.1 0 9).toInt = t0 ∧ (z.2.1 0 3).toInt = n0 ∧ KeM w0 z.2) (fX12_reads_251 k45 σ x1 x2 x5 x6 s0 s1) := by
  have hFU : ((FU : Nat) : Int) = 100000 := rfl
  unfold fX12_reads_251
  refine ok_ck (by omega) (by omega) ?_
  refine ok_nm (fun σ5 hs1 => ?_)
  have hI2 : IvM g σ5 := by rw [hs1]; exact IvM.wI hI rfl (show 0 ≤ (s0 : Int32).toInt by omega) (show (s0 : Int32).toInt ≤ 4 by omega)
  have : KeM w0 σ5 := by rw [hs1]; exact (show KeM w0 σ by assumption)
  have : (σ5.1 0 9).toInt = (σ.1 0 9).toInt := by rw [hs1]; rfl
  have : (σ5.1 0 45).toInt = (σ.1 0 45).toInt := by rw [hs1]; rfl
  have : (σ5.1 0 47).toInt = (σ.1 0 47).toInt := by rw [hs1]; rfl
  have : (σ5.1 0 3).toInt = (σ.1 0 3).toInt := by rw [hs1]; rfl
  have : (2 : Int32).toInt = 2 := by decide
  refine ok_eq (fun h3 => ?_) (fun h3 => ?_)
  · have : 0 ≤ (σ5.1 0 9).toInt ∧ (σ5.1 0 9).toInt ≤ 10 := hI2.1 0 9
    have : 0 ≤ (σ5.1 0 3).toInt ∧ (σ5.1 0 3).toInt ≤ 12 := hI2.1 0 3
    exact sX12_reads_274 t0 n0 w0 k45 σ5 x1 x2 x6 x1 hI2 (by omega) (by omega) (by omega) (by omega) (by omega) (by omega) (by omega) (by omega) (by omega) (by omega) (by first | assumption | exact KeM.rf _) (fun y0 y1 y2 y3 q0 q1 q2 q3 q4 q5 q6 q7 q8 q9 q10 => hk45 y0 y1 y2 y3 q0 q1 q2 q3 q4 q5 q6 q7 q8 q9 (by omega))
  · refine ok_ck (by omega) (by omega) ?_
    have : 0 ≤ (σ5.1 11 (Int32.toNatClampNeg x1)).toInt ∧ (σ5.1 11 (Int32.toNatClampNeg x1)).toInt ≤ 4 := hI2.1 11 (Int32.toNatClampNeg x1)
    refine ok_nmI (fun v6 hv6 he4 => ?_)
    have : 0 ≤ (σ5.1 0 9).toInt ∧ (σ5.1 0 9).toInt ≤ 10 := hI2.1 0 9
    have : 0 ≤ (σ5.1 0 3).toInt ∧ (σ5.1 0 3).toInt ≤ 12 := hI2.1 0 3
    exact sX12_reads_274 t0 n0 w0 k45 σ5 x1 x2 v6 x1 hI2 (by omega) (by omega) (by omega) (by omega) (by omega) (by omega) (by omega) (by omega) (by omega) (by omega) (by first | assumption | exact KeM.rf _) (fun y0 y1 y2 y3 q0 q1 q2 q3 q4 q5 q6 q7 q8 q9 q10 => hk45 y0 y1 y2 y3 q0 q1 q2 q3 q4 q5 q6 q7 q8 q9 (by omega))

theorem sX12_reads_206 {g : Nat} (t0 : Int) (n0 : Int) (w0 : S2) (k45 : S2 → Int32 → Int32 → Int32 → Option (Int32 × S2)) (σ : S2) (x1 : Int32) (x2 : Int32) (s0 : Int32) (s1 : Int32) (hI : IvM g σ) (p9000 : 0 ≤ x1.toInt) (p9001 : x1.toInt ≤ 10) (p9002 : 0 ≤ x2.toInt) (p9003 : x2.toInt ≤ 7) (p9004 : 0 ≤ s0.toInt) (p9005 : s0.toInt ≤ 1) (p9006 : 0 ≤ s1.toInt) (p9007 : s1.toInt ≤ 80) (p9008 : (σ.1 0 9).toInt = t0) (p9009 : (σ.1 0 3).toInt = n0) (p9010 : KeM w0 σ) (p9011 : s1.toInt = (σ.1 0 45).toInt) (p9012 : (s0.toInt = 0 ∨ s1.toInt ≤ 79)) (hk45 : ∀ (y0 : S2) (y1 : Int32) (y2 : Int32) (y3 : Int32), IvM g y0 → 0 ≤ y1.toInt → y1.toInt ≤ 10 → 0 ≤ y2.toInt → y2.toInt ≤ 7 → 0 ≤ y3.toInt → y3.toInt ≤ 1 → (y0.1 0 9).toInt = t0 → (y0.1 0 3).toInt = n0 → KeM w0 y0 → (σ.1 0 45).toInt + 1 ≤ (y0.1 0 45).toInt + 1 - y3.toInt → Ok (fun z => IvM g z.2 ∧ (-1) ≤ z.1.toInt ∧ z.1.toInt ≤ 80 ∧ (z.2.1 0 9).toInt = t0 ∧ (z.2.1 0 3).toInt = n0 ∧ KeM w0 z.2) (k45 y0 y1 y2 y3)) : Ok (fun z => IvM g z.2 ∧ (-1) ≤ z.1.toInt ∧ z.1.toInt ≤ 80 ∧ (z.2.1 0 9).toInt = t0 ∧ (z.2.1 0 3).toInt = n0 ∧ KeM w0 z.2) (fX12_reads_206 k45 σ x1 x2 s0 s1) := by
  have hFU : ((FU : Nat) : Int) = 100000 := rfl
  unfold fX12_reads_206
  have : ((s1 + s0) : Int32).toInt = (s1 : Int32).toInt + (s0 : Int32).toInt := i32_add (by omega) (by omega)
  refine ok_nm (fun σ7 hs1 => ?_)
  have hI2 : IvM g σ7 := by rw [hs1]; exact IvM.wI hI rfl (show 0 ≤ ((s1 + s0) : Int32).toInt by omega) (show ((s1 + s0) : Int32).toInt ≤ 80 by omega)
  have : KeM w0 σ7 := by rw [hs1]; exact (show KeM w0 σ by assumption)
  have : (σ7.1 0 9).toInt = (σ.1 0 9).toInt := by rw [hs1]; rfl
  have : (σ7.1 0 45).toInt = ((s1 + s0) : Int32).toInt := by rw [hs1]; rfl
  have : (σ7.1 0 47).toInt = (σ.1 0 47).toInt := by rw [hs1]; rfl
  have : (σ7.1 0 3).toInt = (σ.1 0 3).toInt := by rw [hs1]; rfl
  have : 0 ≤ (σ7.1 0 9).toInt ∧ (σ7.1 0 9).toInt ≤ 10 := hI2.1 0 9
  have : 0 ≤ (σ7.1 0 3).toInt ∧ (σ7.1 0 3).toInt ≤ 12 := hI2.1 0 3
  exact sX12_reads_275 t0 n0 w0 k45 σ7 x1 x2 hI2 (by omega) (by omega) (by omega) (by omega) (by omega) (by omega) (by first | assumption | exact KeM.rf _) (fun y0 y1 y2 y3 q0 q1 q2 q3 q4 q5 q6 q7 q8 q9 q10 => hk45 y0 y1 y2 y3 q0 q1 q2 q3 q4 q5 q6 q7 q8 q9 (by omega))

theorem sX12_reads_188 {g : Nat} (t0 : Int) (n0 : Int) (w0 : S2) (k45 : S2 → Int32 → Int32 → Int32 → Option (Int32 × S2)) (σ : S2) (x1 : Int32) (x2 : Int32) (s0 : Int32) (s1 : Int32) (hI : IvM g σ) (p9000 : 0 ≤ x1.toInt) (p9001 : x1.toInt ≤ 10) (p9002 : 0 ≤ x2.toInt) (p9003 : x2.toInt ≤ 7) (p9004 : (-49) ≤ s0.toInt) (p9005 : s0.toInt ≤ 207) (p9006 : 0 ≤ s1.toInt) (p9007 : s1.toInt ≤ 10) (p9008 : (σ.1 0 9).toInt = t0) (p9009 : (σ.1 0 3).toInt = n0) (p9010 : KeM w0 σ) (p9011 : ((σ.1 0 47).toInt ≠ 0 ∨ (σ.1 0 45).toInt ≤ 79)) (hk45 : ∀ (y0 : S2) (y1 : Int32) (y2 : Int32) (y3 : Int32), IvM g y0 → 0 ≤ y1.toInt → y1.toInt ≤ 10 → 0 ≤ y2.toInt → y2.toInt ≤ 7 → 0 ≤ y3.toInt → y3.toInt ≤ 1 → (y0.1 0 9).toInt = t0 → (y0.1 0 3).toInt = n0 → KeM w0 y0 → (σ.1 0 45).toInt + 1 ≤ (y0.1 0 45).toInt + 1 - y3.toInt → Ok (fun z => IvM g z.2 ∧ (-1) ≤ z.1.toInt ∧ z.1.toInt ≤ 80 ∧ (z.2.1 0 9).toInt = t0 ∧ (z.2.1 0 3).toInt = n0 ∧ KeM w0 z.2) (k45 y0 y1 y2 y3)) : Ok (fun z => IvM g z.2 ∧ (-1) ≤ z.1.toInt ∧ z.1.toInt ≤ 80 ∧ (z.2.1 0 9).toInt = t0 ∧ (z.2.1 0 3).toInt = n0 ∧ KeM w0 z.2) (fX12_reads_188 k45 σ x1 x2 s0 s1) := by
  have hFU : ((FU : Nat) : Int) = 100000 := rfl
  unfold fX12_reads_188
  refine ok_ck (by omega) (by omega) ?_
  refine ok_nm (fun σ8 hs1 => ?_)
  have hI2 : IvM g σ8 := by rw [hs1]; exact IvM.wI hI rfl (show (-49) ≤ (s0 : Int32).toInt by omega) (show (s0 : Int32).toInt ≤ 207 by omega)
  have : KeM w0 σ8 := by rw [hs1]; exact (show KeM w0 σ by assumption)
  have : (σ8.1 0 9).toInt = (σ.1 0 9).toInt := by rw [hs1]; rfl
  have : (σ8.1 0 45).toInt = (σ.1 0 45).toInt := by rw [hs1]; rfl
  have : (σ8.1 0 47).toInt = (σ.1 0 47).toInt := by rw [hs1]; rfl
  have : (σ8.1 0 3).toInt = (σ.1 0 3).toInt := by rw [hs1]; rfl
  have : 0 ≤ (σ8.1 0 47).toInt ∧ (σ8.1 0 47).toInt ≤ 1 := hI2.1 0 47
  have : (0 : Int32).toInt = 0 := by decide
  refine ok_eq (fun h3 => ?_) (fun h3 => ?_)
  · have : (1 : Int32).toInt = 1 := by decide
    have : 0 ≤ (σ8.1 0 45).toInt ∧ (σ8.1 0 45).toInt ≤ 80 := hI2.1 0 45
    have : 0 ≤ (σ8.1 0 9).toInt ∧ (σ8.1 0 9).toInt ≤ 10 := hI2.1 0 9
    have : 0 ≤ (σ8.1 0 3).toInt ∧ (σ8.1 0 3).toInt ≤ 12 := hI2.1 0 3
    exact sX12_reads_206 t0 n0 w0 k45 σ8 x1 x2 1 (σ8.1 0 45) hI2 (by omega) (by omega) (by omega) (by omega) (by omega) (by omega) (by omega) (by omega) (by omega) (by omega) (by first | assumption | exact KeM.rf _) (by omega) (by omega) (fun y0 y1 y2 y3 q0 q1 q2 q3 q4 q5 q6 q7 q8 q9 q10 => hk45 y0 y1 y2 y3 q0 q1 q2 q3 q4 q5 q6 q7 q8 q9 (by omega))
  · have : 0 ≤ (σ8.1 0 45).toInt ∧ (σ8.1 0 45).toInt ≤ 80 := hI2.1 0 45
    have : 0 ≤ (σ8.1 0 9).toInt ∧ (σ8.1 0 9).toInt ≤ 10 := hI2.1 0 9
    have : 0 ≤ (σ8.1 0 3).toInt ∧ (σ8.1 0 3).toInt ≤ 12 := hI2.1 0 3
    exact sX12_reads_206 t0 n0 w0 k45 σ8 x1 x2 0 (σ8.1 0 45) hI2 (by omega) (by omega) (by omega) (by omega) (by omega) (by omega) (by omega) (by omega) (by omega) (by omega) (by first | assumption | exact KeM.rf _) (by omega) (by omega) (fun y0 y1 y2 y3 q0 q1 q2 q3 q4 q5 q6 q7 q8 q9 q10 => hk45 y0 y1 y2 y3 q0 q1 q2 q3 q4 q5 q6 q7 q8 q9 (by omega))

theorem sX12_reads_162 {g : Nat} (t0 : Int) (n0 : Int) (w0 : S2) (k45 : S2 → Int32 → Int32 → Int32 → Option (Int32 × S2)) (σ : S2) (x1 : Int32) (x2 : Int32) (s0 : Int32) (hI : IvM g σ) (p9000 : 0 ≤ x1.toInt) (p9001 : x1.toInt ≤ 10) (p9002 : 0 ≤ x2.toInt) (p9003 : x2.toInt ≤ 7) (p9004 : 0 ≤ s0.toInt) (p9005 : s0.toInt ≤ 1) (p9006 : (σ.1 0 9).toInt = t0) (p9007 : (σ.1 0 3).toInt = n0) (p9008 : KeM w0 σ) (p9009 : (s0.toInt ≠ 0 ∨ (σ.1 0 45).toInt ≤ 79)) (hk45 : ∀ (y0 : S2) (y1 : Int32) (y2 : Int32) (y3 : Int32), IvM g y0 → 0 ≤ y1.toInt → y1.toInt ≤ 10 → 0 ≤ y2.toInt → y2.toInt ≤ 7 → 0 ≤ y3.toInt → y3.toInt ≤ 1 → (y0.1 0 9).toInt = t0 → (y0.1 0 3).toInt = n0 → KeM w0 y0 → (σ.1 0 45).toInt + 1 ≤ (y0.1 0 45).toInt + 1 - y3.toInt → Ok (fun z => IvM g z.2 ∧ (-1) ≤ z.1.toInt ∧ z.1.toInt ≤ 80 ∧ (z.2.1 0 9).toInt = t0 ∧ (z.2.1 0 3).toInt = n0 ∧ KeM w0 z.2) (k45 y0 y1 y2 y3)) : Ok (fun z => IvM g z.2 ∧ (-1) ≤ z.1.toInt ∧ z.1.toInt ≤ 80 ∧ (z.2.1 0 9).toInt = t0 ∧ (z.2.1 0 3).toInt = n0 ∧ KeM w0 z.2) (fX12_reads_162 k45 σ x1 x2 s0) := by
  have hFU : ((FU : Nat) : Int) = 100000 := rfl
  unfold fX12_reads_162
  refine ok_zf (by omega) (by omega) ?_
  refine ok_nm (fun σ9 hs1 => ?_)
  have hI2 : IvM g σ9 := by rw [hs1]; exact IvM.wI hI rfl (show 0 ≤ (s0 : Int32).toInt by omega) (show (s0 : Int32).toInt ≤ 1 by omega)
  have : KeM w0 σ9 := by rw [hs1]; exact (show KeM w0 σ by assumption)
  have : (σ9.1 0 9).toInt = (σ.1 0 9).toInt := by rw [hs1]; rfl
  have : (σ9.1 0 45).toInt = (σ.1 0 45).toInt := by rw [hs1]; rfl
  have : (σ9.1 0 47).toInt = (s0 : Int32).toInt := by rw [hs1]; rfl
  have : (σ9.1 0 3).toInt = (σ.1 0 3).toInt := by rw [hs1]; rfl
  have : 0 ≤ (σ9.1 0 47).toInt ∧ (σ9.1 0 47).toInt ≤ 1 := hI2.1 0 47
  have : (0 : Int32).toInt = 0 := by decide
  refine ok_eq (fun h3 => ?_) (fun h3 => ?_)
  · refine ok_bi (sX12_here σ9 hI2) (fun r11 hr4 => ?_)
    obtain ⟨p5, p6, p7⟩ := hr4
    have p5 : (-1) ≤ r11.toInt := p5
    have p6 : r11.toInt ≤ 255 := p6
    have p7 : r11.toInt ≠ -1 → (σ9.1 0 45).toInt ≤ 79 := p7
    have : (48 : Int32).toInt = 48 := by decide
    have : ((r11 - 48) : Int32).toInt = (r11 : Int32).toInt - (48 : Int32).toInt := i32_sub (by omega) (by omega)
    have : 0 ≤ (σ9.1 0 9).toInt ∧ (σ9.1 0 9).toInt ≤ 10 := hI2.1 0 9
    have : 0 ≤ (σ9.1 0 3).toInt ∧ (σ9.1 0 3).toInt ≤ 12 := hI2.1 0 3
    exact sX12_reads_188 t0 n0 w0 k45 σ9 x1 x2 (r11 - 48) x1 hI2 (by omega) (by omega) (by omega) (by omega) (by omega) (by omega) (by omega) (by omega) (by omega) (by omega) (by first | assumption | exact KeM.rf _) (by omega) (fun y0 y1 y2 y3 q0 q1 q2 q3 q4 q5 q6 q7 q8 q9 q10 => hk45 y0 y1 y2 y3 q0 q1 q2 q3 q4 q5 q6 q7 q8 q9 (by omega))
  · have : 0 ≤ (σ9.1 0 9).toInt ∧ (σ9.1 0 9).toInt ≤ 10 := hI2.1 0 9
    have : 0 ≤ (σ9.1 0 3).toInt ∧ (σ9.1 0 3).toInt ≤ 12 := hI2.1 0 3
    exact sX12_reads_188 t0 n0 w0 k45 σ9 x1 x2 0 x1 hI2 (by omega) (by omega) (by omega) (by omega) (by omega) (by omega) (by omega) (by omega) (by omega) (by omega) (by first | assumption | exact KeM.rf _) (by omega) (fun y0 y1 y2 y3 q0 q1 q2 q3 q4 q5 q6 q7 q8 q9 q10 => hk45 y0 y1 y2 y3 q0 q1 q2 q3 q4 q5 q6 q7 q8 q9 (by omega))

theorem sX12_reads_157 {g : Nat} (t0 : Int) (n0 : Int) (w0 : S2) (k45 : S2 → Int32 → Int32 → Int32 → Option (Int32 × S2)) (σ : S2) (x1 : Int32) (x2 : Int32) (hI : IvM g σ) (p9000 : 0 ≤ x1.toInt) (p9001 : x1.toInt ≤ 10) (p9002 : 0 ≤ x2.toInt) (p9003 : x2.toInt ≤ 7) (p9004 : (σ.1 0 9).toInt = t0) (p9005 : (σ.1 0 3).toInt = n0) (p9006 : KeM w0 σ) (hk45 : ∀ (y0 : S2) (y1 : Int32) (y2 : Int32) (y3 : Int32), IvM g y0 → 0 ≤ y1.toInt → y1.toInt ≤ 10 → 0 ≤ y2.toInt → y2.toInt ≤ 7 → 0 ≤ y3.toInt → y3.toInt ≤ 1 → (y0.1 0 9).toInt = t0 → (y0.1 0 3).toInt = n0 → KeM w0 y0 → (σ.1 0 45).toInt + 1 ≤ (y0.1 0 45).toInt + 1 - y3.toInt → Ok (fun z => IvM g z.2 ∧ (-1) ≤ z.1.toInt ∧ z.1.toInt ≤ 80 ∧ (z.2.1 0 9).toInt = t0 ∧ (z.2.1 0 3).toInt = n0 ∧ KeM w0 z.2) (k45 y0 y1 y2 y3)) : Ok (fun z => IvM g z.2 ∧ (-1) ≤ z.1.toInt ∧ z.1.toInt ≤ 80 ∧ (z.2.1 0 9).toInt = t0 ∧ (z.2.1 0 3).toInt = n0 ∧ KeM w0 z.2) (fX12_reads_157 k45 σ x1 x2) := by
  have hFU : ((FU : Nat) : Int) = 100000 := rfl
  unfold fX12_reads_157
  have : (1 : Int32).toInt = 1 := by decide
  have : 0 ≤ (σ.1 0 9).toInt ∧ (σ.1 0 9).toInt ≤ 10 := hI.1 0 9
  have : 0 ≤ (σ.1 0 3).toInt ∧ (σ.1 0 3).toInt ≤ 12 := hI.1 0 3
  exact sX12_reads_162 t0 n0 w0 k45 σ x1 x2 1 hI (by omega) (by omega) (by omega) (by omega) (by omega) (by omega) (by omega) (by omega) (by first | assumption | exact KeM.rf _) (by omega) (fun y0 y1 y2 y3 q0 q1 q2 q3 q4 q5 q6 q7 q8 q9 q10 => hk45 y0 y1 y2 y3 q0 q1 q2 q3 q4 q5 q6 q7 q8 q9 (by omega))

theorem sX12_reads_109 {g : Nat} (t0 : Int) (n0 : Int) (w0 : S2) (k45 : S2 → Int32 → Int32 → Int32 → Option (Int32 × S2)) (σ : S2) (x1 : Int32) (x2 : Int32) (x4 : Int32) (x5 : Int32) (s0 : Int32) (hI : IvM g σ) (p9000 : 0 ≤ x1.toInt) (p9001 : x1.toInt ≤ 10) (p9002 : 0 ≤ x2.toInt) (p9003 : x2.toInt ≤ 7) (p9004 : (-1) ≤ x4.toInt) (p9005 : x4.toInt ≤ 255) (p9006 : 0 ≤ x5.toInt) (p9007 : x5.toInt ≤ 4) (p9008 : 0 ≤ s0.toInt) (p9009 : s0.toInt ≤ 1) (p9010 : (σ.1 0 9).toInt = t0) (p9011 : (σ.1 0 3).toInt = n0) (p9012 : KeM w0 σ) (p9013 : (s0.toInt = 1 ∨ x4.toInt ≠ -1)) (hk45 : ∀ (y0 : S2) (y1 : Int32) (y2 : Int32) (y3 : Int32), IvM g y0 → 0 ≤ y1.toInt → y1.toInt ≤ 10 → 0 ≤ y2.toInt → y2.toInt ≤ 7 → 0 ≤ y3.toInt → y3.toInt ≤ 1 → (y0.1 0 9).toInt = t0 → (y0.1 0 3).toInt = n0 → KeM w0 y0 → (σ.1 0 45).toInt + 1 ≤ (y0.1 0 45).toInt + 1 - y3.toInt → Ok (fun z => IvM g z.2 ∧ (-1) ≤ z.1.toInt ∧ z.1.toInt ≤ 80 ∧ (z.2.1 0 9).toInt = t0 ∧ (z.2.1 0 3).toInt = n0 ∧ KeM w0 z.2) (k45 y0 y1 y2 y3)) : Ok (fun z => IvM g z.2 ∧ (-1) ≤ z.1.toInt ∧ z.1.toInt ≤ 80 ∧ (z.2.1 0 9).toInt = t0 ∧ (z.2.1 0 3).toInt = n0 ∧ KeM w0 z.2) (fX12_reads_109 k45 σ x1 x2 x4 x5 s0) := by
  have hFU : ((FU : Nat) : Int) = 100000 := rfl
  unfold fX12_reads_109
  refine ok_zf (by omega) (by omega) ?_
  refine ok_nm (fun σ13 hs1 => ?_)
  have hI2 : IvM g σ13 := by rw [hs1]; exact IvM.wI hI rfl (show 0 ≤ (s0 : Int32).toInt by omega) (show (s0 : Int32).toInt ≤ 1 by omega)
  have : KeM w0 σ13 := by rw [hs1]; exact (show KeM w0 σ by assumption)
  have : (σ13.1 0 9).toInt = (σ.1 0 9).toInt := by rw [hs1]; rfl
  have : (σ13.1 0 45).toInt = (σ.1 0 45).toInt := by rw [hs1]; rfl
  have : (σ13.1 0 47).toInt = (s0 : Int32).toInt := by rw [hs1]; rfl
  have : (σ13.1 0 3).toInt = (σ.1 0 3).toInt := by rw [hs1]; rfl
  have := i32_orB (a := x2) (b := x5) 3 7 (by decide) (by decide) (by omega) (by omega) (by omega) (by omega)
  refine ok_nmI (fun v15 hv15 he3 => ?_)
  have : 0 ≤ (σ13.1 0 9).toInt ∧ (σ13.1 0 9).toInt ≤ 10 := hI2.1 0 9
  have : 0 ≤ (σ13.1 0 46).toInt ∧ (σ13.1 0 46).toInt ≤ 4 := hI2.1 0 46
  have : 0 ≤ (σ13.1 0 3).toInt ∧ (σ13.1 0 3).toInt ≤ 12 := hI2.1 0 3
  have : 0 ≤ (σ13.1 0 45).toInt ∧ (σ13.1 0 45).toInt ≤ 80 := hI2.1 0 45
  refine ok_bs (sX12_eats (σ13.1 0 9).toInt (σ13.1 0 46).toInt (σ13.1 0 3).toInt (σ13.1 0 45).toInt w0 σ13 x4 hI2 (by omega) (by omega) (by omega) (by omega) (by omega) (by omega) (by first | assumption | exact KeM.rf _) (by omega)) (fun r16 σ17 hr4 => ?_)
  obtain ⟨p5, p6, p7, p8, p9, p10⟩ := hr4
  have p5 : IvM g σ17 := p5
  have p6 : (σ17.1 0 9).toInt = (σ13.1 0 9).toInt := p6
  have p7 : (σ17.1 0 46).toInt = (σ13.1 0 46).toInt := p7
  have p8 : (σ17.1 0 3).toInt = (σ13.1 0 3).toInt := p8
  have p9 : (σ13.1 0 45).toInt ≤ (σ17.1 0 45).toInt := p9
  have p10 : KeM w0 σ17 := p10
  have : (32 : Int32).toInt = 32 := by decide
  have : 0 ≤ (σ17.1 0 9).toInt ∧ (σ17.1 0 9).toInt ≤ 10 := p5.1 0 9
  have : 0 ≤ (σ17.1 0 46).toInt ∧ (σ17.1 0 46).toInt ≤ 4 := p5.1 0 46
  have : 0 ≤ (σ17.1 0 3).toInt ∧ (σ17.1 0 3).toInt ≤ 12 := p5.1 0 3
  have : 0 ≤ (σ17.1 0 45).toInt ∧ (σ17.1 0 45).toInt ≤ 80 := p5.1 0 45
  refine ok_bs (sX12_eats (σ17.1 0 9).toInt (σ17.1 0 46).toInt (σ17.1 0 3).toInt (σ17.1 0 45).toInt w0 σ17 32 p5 (by omega) (by omega) (by omega) (by omega) (by omega) (by omega) (by first | assumption | exact KeM.rf _) (by omega)) (fun r19 σ20 hr11 => ?_)
  obtain ⟨p12, p13, p14, p15, p16, p17⟩ := hr11
  have p12 : IvM g σ20 := p12
  have p13 : (σ20.1 0 9).toInt = (σ17.1 0 9).toInt := p13
  have p14 : (σ20.1 0 46).toInt = (σ17.1 0 46).toInt := p14
  have p15 : (σ20.1 0 3).toInt = (σ17.1 0 3).toInt := p15
  have p16 : (σ17.1 0 45).toInt ≤ (σ20.1 0 45).toInt := p16
  have p17 : KeM w0 σ20 := p17
  have : (4 : Int32).toInt = 4 := by decide
  refine ok_eq (fun h18 => ?_) (fun h18 => ?_)
  · have : 0 ≤ (σ20.1 0 47).toInt ∧ (σ20.1 0 47).toInt ≤ 1 := p12.1 0 47
    have : (0 : Int32).toInt = 0 := by decide
    refine ok_eq (fun h19 => ?_) (fun h19 => ?_)
    · refine ok_bi (sX12_here σ20 p12) (fun r28 hr20 => ?_)
      obtain ⟨p21, p22, p23⟩ := hr20
      have p21 : (-1) ≤ r28.toInt := p21
      have p22 : r28.toInt ≤ 255 := p22
      have p23 : r28.toInt ≠ -1 → (σ20.1 0 45).toInt ≤ 79 := p23
      have : (48 : Int32).toInt = 48 := by decide
      have : (50 : Int32).toInt = 50 := by decide
      refine ok_bi (sX12_in σ20 r28 48 50 p12 (by omega) (by omega) (by omega) (by omega)) (fun r30 hr24 => ?_)
      obtain ⟨p25, p26, p27⟩ := hr24
      have p25 : 0 ≤ r30.toInt := p25
      have p26 : r30.toInt ≤ 1 := p26
      have p27 : r30.toInt ≠ 0 → (48 : Int32).toInt ≤ r28.toInt ∧ r28.toInt ≤ (50 : Int32).toInt := p27
      refine ok_eq (fun h28 => ?_) (fun h28 => ?_)
      · have : 0 ≤ (σ20.1 0 9).toInt ∧ (σ20.1 0 9).toInt ≤ 10 := p12.1 0 9
        have : 0 ≤ (σ20.1 0 3).toInt ∧ (σ20.1 0 3).toInt ≤ 12 := p12.1 0 3
        exact sX12_reads_157 t0 n0 w0 k45 σ20 x1 v15 p12 (by omega) (by omega) (by omega) (by omega) (by omega) (by omega) (by first | assumption | exact KeM.rf _) (fun y0 y1 y2 y3 q0 q1 q2 q3 q4 q5 q6 q7 q8 q9 q10 => hk45 y0 y1 y2 y3 q0 q1 q2 q3 q4 q5 q6 q7 q8 q9 (by omega))
      · have : 0 ≤ (σ20.1 0 9).toInt ∧ (σ20.1 0 9).toInt ≤ 10 := p12.1 0 9
        have : 0 ≤ (σ20.1 0 3).toInt ∧ (σ20.1 0 3).toInt ≤ 12 := p12.1 0 3
        exact sX12_reads_162 t0 n0 w0 k45 σ20 x1 v15 0 p12 (by omega) (by omega) (by omega) (by omega) (by omega) (by omega) (by omega) (by omega) (by first | assumption | exact KeM.rf _) (by omega) (fun y0 y1 y2 y3 q0 q1 q2 q3 q4 q5 q6 q7 q8 q9 q10 => hk45 y0 y1 y2 y3 q0 q1 q2 q3 q4 q5 q6 q7 q8 q9 (by omega))
    · have : 0 ≤ (σ20.1 0 9).toInt ∧ (σ20.1 0 9).toInt ≤ 10 := p12.1 0 9
      have : 0 ≤ (σ20.1 0 3).toInt ∧ (σ20.1 0 3).toInt ≤ 12 := p12.1 0 3
      exact sX12_reads_157 t0 n0 w0 k45 σ20 x1 v15 p12 (by omega) (by omega) (by omega) (by omega) (by omega) (by omega) (by first | assumption | exact KeM.rf _) (fun y0 y1 y2 y3 q0 q1 q2 q3 q4 q5 q6 q7 q8 q9 q10 => hk45 y0 y1 y2 y3 q0 q1 q2 q3 q4 q5 q6 q7 q8 q9 (by omega))
  · have : 0 ≤ (σ20.1 0 47).toInt ∧ (σ20.1 0 47).toInt ≤ 1 := p12.1 0 47
    have : (0 : Int32).toInt = 0 := by decide
    refine ok_eq (fun h29 => ?_) (fun h29 => ?_)
    · have : 0 ≤ (σ20.1 0 9).toInt ∧ (σ20.1 0 9).toInt ≤ 10 := p12.1 0 9
      have : 0 ≤ (σ20.1 0 46).toInt ∧ (σ20.1 0 46).toInt ≤ 4 := p12.1 0 46
      have : 0 ≤ (σ20.1 0 3).toInt ∧ (σ20.1 0 3).toInt ≤ 12 := p12.1 0 3
      have : 0 ≤ (σ20.1 0 45).toInt ∧ (σ20.1 0 45).toInt ≤ 80 := p12.1 0 45
      refine ok_bs (sX12_sum (σ20.1 0 9).toInt (σ20.1 0 46).toInt (σ20.1 0 3).toInt (σ20.1 0 45).toInt w0 σ20 p12 (by omega) (by omega) (by omega) (by omega) (by first | assumption | exact KeM.rf _)) (fun r22 σ23 hr30 => ?_)
      obtain ⟨p31, p32, p33, p34, p35, p36⟩ := hr30
      have p31 : IvM g σ23 := p31
      have p32 : (σ23.1 0 9).toInt = (σ20.1 0 9).toInt := p32
      have p33 : (σ23.1 0 46).toInt = (σ20.1 0 46).toInt := p33
      have p34 : (σ23.1 0 3).toInt = (σ20.1 0 3).toInt := p34
      have p35 : (σ20.1 0 45).toInt ≤ (σ23.1 0 45).toInt := p35
      have p36 : KeM w0 σ23 := p36
      have := i32_rng r22
      refine ok_bi (sX12_held σ23 r22 p31) (fun r25 hr37 => ?_)
      obtain ⟨p38, p39⟩ := hr37
      have p38 : 1 ≤ r25.toInt := p38
      have p39 : r25.toInt ≤ 4 := p39
      have : (1 : Int32).toInt = 1 := by decide
      refine ok_eq (fun h40 => ?_) (fun h40 => ?_)
      · have : 0 ≤ (σ23.1 0 9).toInt ∧ (σ23.1 0 9).toInt ≤ 10 := p31.1 0 9
        have : 0 ≤ (σ23.1 0 3).toInt ∧ (σ23.1 0 3).toInt ≤ 12 := p31.1 0 3
        exact sX12_reads_251 t0 n0 w0 k45 σ23 x1 v15 x5 r25 r25 x1 p31 (by omega) (by omega) (by omega) (by omega) (by omega) (by omega) (by omega) (by omega) (by omega) (by omega) (by omega) (by omega) (by omega) (by omega) (by first | assumption | exact KeM.rf _) (fun y0 y1 y2 y3 q0 q1 q2 q3 q4 q5 q6 q7 q8 q9 q10 => hk45 y0 y1 y2 y3 q0 q1 q2 q3 q4 q5 q6 q7 q8 q9 (by omega))
      · refine ok_ck (by omega) (by omega) ?_
        have : 0 ≤ (σ23.1 10 (Int32.toNatClampNeg x1)).toInt ∧ (σ23.1 10 (Int32.toNatClampNeg x1)).toInt ≤ 4 := p31.1 10 (Int32.toNatClampNeg x1)
        refine ok_nmI (fun v27 hv27 he41 => ?_)
        have : 0 ≤ (σ23.1 0 9).toInt ∧ (σ23.1 0 9).toInt ≤ 10 := p31.1 0 9
        have : 0 ≤ (σ23.1 0 3).toInt ∧ (σ23.1 0 3).toInt ≤ 12 := p31.1 0 3
        exact sX12_reads_251 t0 n0 w0 k45 σ23 x1 v15 x5 r25 v27 x1 p31 (by omega) (by omega) (by omega) (by omega) (by omega) (by omega) (by omega) (by omega) (by omega) (by omega) (by omega) (by omega) (by omega) (by omega) (by first | assumption | exact KeM.rf _) (fun y0 y1 y2 y3 q0 q1 q2 q3 q4 q5 q6 q7 q8 q9 q10 => hk45 y0 y1 y2 y3 q0 q1 q2 q3 q4 q5 q6 q7 q8 q9 (by omega))
    · have : 0 ≤ (σ20.1 0 9).toInt ∧ (σ20.1 0 9).toInt ≤ 10 := p12.1 0 9
      have : 0 ≤ (σ20.1 0 3).toInt ∧ (σ20.1 0 3).toInt ≤ 12 := p12.1 0 3
      exact sX12_reads_275 t0 n0 w0 k45 σ20 x1 v15 p12 (by omega) (by omega) (by omega) (by omega) (by omega) (by omega) (by first | assumption | exact KeM.rf _) (fun y0 y1 y2 y3 q0 q1 q2 q3 q4 q5 q6 q7 q8 q9 q10 => hk45 y0 y1 y2 y3 q0 q1 q2 q3 q4 q5 q6 q7 q8 q9 (by omega))

theorem sX12_reads_104 {g : Nat} (t0 : Int) (n0 : Int) (w0 : S2) (k45 : S2 → Int32 → Int32 → Int32 → Option (Int32 × S2)) (σ : S2) (x1 : Int32) (x2 : Int32) (x4 : Int32) (x5 : Int32) (hI : IvM g σ) (p9000 : 0 ≤ x1.toInt) (p9001 : x1.toInt ≤ 10) (p9002 : 0 ≤ x2.toInt) (p9003 : x2.toInt ≤ 7) (p9004 : (-1) ≤ x4.toInt) (p9005 : x4.toInt ≤ 255) (p9006 : 0 ≤ x5.toInt) (p9007 : x5.toInt ≤ 4) (p9008 : (σ.1 0 9).toInt = t0) (p9009 : (σ.1 0 3).toInt = n0) (p9010 : KeM w0 σ) (hk45 : ∀ (y0 : S2) (y1 : Int32) (y2 : Int32) (y3 : Int32), IvM g y0 → 0 ≤ y1.toInt → y1.toInt ≤ 10 → 0 ≤ y2.toInt → y2.toInt ≤ 7 → 0 ≤ y3.toInt → y3.toInt ≤ 1 → (y0.1 0 9).toInt = t0 → (y0.1 0 3).toInt = n0 → KeM w0 y0 → (σ.1 0 45).toInt + 1 ≤ (y0.1 0 45).toInt + 1 - y3.toInt → Ok (fun z => IvM g z.2 ∧ (-1) ≤ z.1.toInt ∧ z.1.toInt ≤ 80 ∧ (z.2.1 0 9).toInt = t0 ∧ (z.2.1 0 3).toInt = n0 ∧ KeM w0 z.2) (k45 y0 y1 y2 y3)) : Ok (fun z => IvM g z.2 ∧ (-1) ≤ z.1.toInt ∧ z.1.toInt ≤ 80 ∧ (z.2.1 0 9).toInt = t0 ∧ (z.2.1 0 3).toInt = n0 ∧ KeM w0 z.2) (fX12_reads_104 k45 σ x1 x2 x4 x5) := by
  have hFU : ((FU : Nat) : Int) = 100000 := rfl
  unfold fX12_reads_104
  have : (1 : Int32).toInt = 1 := by decide
  have : 0 ≤ (σ.1 0 9).toInt ∧ (σ.1 0 9).toInt ≤ 10 := hI.1 0 9
  have : 0 ≤ (σ.1 0 3).toInt ∧ (σ.1 0 3).toInt ≤ 12 := hI.1 0 3
  exact sX12_reads_109 t0 n0 w0 k45 σ x1 x2 x4 x5 1 hI (by omega) (by omega) (by omega) (by omega) (by omega) (by omega) (by omega) (by omega) (by omega) (by omega) (by omega) (by omega) (by first | assumption | exact KeM.rf _) (by omega) (fun y0 y1 y2 y3 q0 q1 q2 q3 q4 q5 q6 q7 q8 q9 q10 => hk45 y0 y1 y2 y3 q0 q1 q2 q3 q4 q5 q6 q7 q8 q9 (by omega))

theorem sX12_reads_89 {g : Nat} (t0 : Int) (n0 : Int) (w0 : S2) (k45 : S2 → Int32 → Int32 → Int32 → Option (Int32 × S2)) (σ : S2) (x1 : Int32) (x2 : Int32) (x4 : Int32) (s0 : Int32) (hI : IvM g σ) (p9000 : 0 ≤ x1.toInt) (p9001 : x1.toInt ≤ 10) (p9002 : 0 ≤ x2.toInt) (p9003 : x2.toInt ≤ 7) (p9004 : (-1) ≤ x4.toInt) (p9005 : x4.toInt ≤ 255) (p9006 : 0 ≤ s0.toInt) (p9007 : s0.toInt ≤ 4) (p9008 : (σ.1 0 9).toInt = t0) (p9009 : (σ.1 0 3).toInt = n0) (p9010 : KeM w0 σ) (p9011 : (s0.toInt = 0 ∨ x4.toInt ≠ -1)) (hk45 : ∀ (y0 : S2) (y1 : Int32) (y2 : Int32) (y3 : Int32), IvM g y0 → 0 ≤ y1.toInt → y1.toInt ≤ 10 → 0 ≤ y2.toInt → y2.toInt ≤ 7 → 0 ≤ y3.toInt → y3.toInt ≤ 1 → (y0.1 0 9).toInt = t0 → (y0.1 0 3).toInt = n0 → KeM w0 y0 → (σ.1 0 45).toInt + 1 ≤ (y0.1 0 45).toInt + 1 - y3.toInt → Ok (fun z => IvM g z.2 ∧ (-1) ≤ z.1.toInt ∧ z.1.toInt ≤ 80 ∧ (z.2.1 0 9).toInt = t0 ∧ (z.2.1 0 3).toInt = n0 ∧ KeM w0 z.2) (k45 y0 y1 y2 y3)) : Ok (fun z => IvM g z.2 ∧ (-1) ≤ z.1.toInt ∧ z.1.toInt ≤ 80 ∧ (z.2.1 0 9).toInt = t0 ∧ (z.2.1 0 3).toInt = n0 ∧ KeM w0 z.2) (fX12_reads_89 k45 σ x1 x2 x4 s0) := by
  have hFU : ((FU : Nat) : Int) = 100000 := rfl
  unfold fX12_reads_89
  have : (0 : Int32).toInt = 0 := by decide
  refine ok_eq (fun h1 => ?_) (fun h1 => ?_)
  · have : 0 ≤ (σ.1 0 9).toInt ∧ (σ.1 0 9).toInt ≤ 10 := hI.1 0 9
    have : 0 ≤ (σ.1 0 3).toInt ∧ (σ.1 0 3).toInt ≤ 12 := hI.1 0 3
    exact sX12_reads_104 t0 n0 w0 k45 σ x1 x2 x4 s0 hI (by omega) (by omega) (by omega) (by omega) (by omega) (by omega) (by omega) (by omega) (by omega) (by omega) (by first | assumption | exact KeM.rf _) (fun y0 y1 y2 y3 q0 q1 q2 q3 q4 q5 q6 q7 q8 q9 q10 => hk45 y0 y1 y2 y3 q0 q1 q2 q3 q4 q5 q6 q7 q8 q9 (by omega))
  · have := i32_andR (a := x2) (m := s0) (by omega)
    have := i32_andL (a := x2) (m := s0) (by omega)
    refine ok_eq (fun h2 => ?_) (fun h2 => ?_)
    · have : 0 ≤ (σ.1 0 9).toInt ∧ (σ.1 0 9).toInt ≤ 10 := hI.1 0 9
      have : 0 ≤ (σ.1 0 3).toInt ∧ (σ.1 0 3).toInt ≤ 12 := hI.1 0 3
      exact sX12_reads_109 t0 n0 w0 k45 σ x1 x2 x4 s0 0 hI (by omega) (by omega) (by omega) (by omega) (by omega) (by omega) (by omega) (by omega) (by omega) (by omega) (by omega) (by omega) (by first | assumption | exact KeM.rf _) (by omega) (fun y0 y1 y2 y3 q0 q1 q2 q3 q4 q5 q6 q7 q8 q9 q10 => hk45 y0 y1 y2 y3 q0 q1 q2 q3 q4 q5 q6 q7 q8 q9 (by omega))
    · have : 0 ≤ (σ.1 0 9).toInt ∧ (σ.1 0 9).toInt ≤ 10 := hI.1 0 9
      have : 0 ≤ (σ.1 0 3).toInt ∧ (σ.1 0 3).toInt ≤ 12 := hI.1 0 3
      exact sX12_reads_104 t0 n0 w0 k45 σ x1 x2 x4 s0 hI (by omega) (by omega) (by omega) (by omega) (by omega) (by omega) (by omega) (by omega) (by omega) (by omega) (by first | assumption | exact KeM.rf _) (fun y0 y1 y2 y3 q0 q1 q2 q3 q4 q5 q6 q7 q8 q9 q10 => hk45 y0 y1 y2 y3 q0 q1 q2 q3 q4 q5 q6 q7 q8 q9 (by omega))

theorem sX12_reads_45 {g : Nat} (t0 : Int) (n0 : Int) (w0 : S2) : ∀ (n : Nat) (σ : S2) (x1 : Int32) (x2 : Int32) (x3 : Int32), IvM g σ → 0 ≤ x1.toInt → x1.toInt ≤ 10 → 0 ≤ x2.toInt → x2.toInt ≤ 7 → 0 ≤ x3.toInt → x3.toInt ≤ 1 → (σ.1 0 9).toInt = t0 → (σ.1 0 3).toInt = n0 → KeM w0 σ → 81 - ((σ.1 0 45).toInt + 1 - x3.toInt) < (n : Int) → Ok (fun z => IvM g z.2 ∧ (-1) ≤ z.1.toInt ∧ z.1.toInt ≤ 80 ∧ (z.2.1 0 9).toInt = t0 ∧ (z.2.1 0 3).toInt = n0 ∧ KeM w0 z.2) (fX12_reads_45 n σ x1 x2 x3) := by
  have hFU : ((FU : Nat) : Int) = 100000 := rfl
  intro n
  induction n with
  | zero => intro σ x1 x2 x3 hI p9000 p9001 p9002 p9003 p9004 p9005 p9006 p9007 p9008 hm; have : 0 ≤ (σ.1 0 45).toInt ∧ (σ.1 0 45).toInt ≤ 80 := hI.1 0 45; exfalso; omega
  | succ n ih =>
    intro σ x1 x2 x3 hI p9000 p9001 p9002 p9003 p9004 p9005 p9006 p9007 p9008 hm
    unfold fX12_reads_45
    have : (0 : Int32).toInt = 0 := by decide
    refine ok_eq (fun h1 => ?_) (fun h1 => ?_)
    · have : 0 ≤ (σ.1 0 47).toInt ∧ (σ.1 0 47).toInt ≤ 1 := hI.1 0 47
      refine ok_eq (fun h2 => ?_) (fun h2 => ?_)
      · refine ok_ck (by omega) (by omega) ?_
        have : 0 ≤ (σ.1 13 (Int32.toNatClampNeg x1)).toInt ∧ (σ.1 13 (Int32.toNatClampNeg x1)).toInt ≤ 80 := hI.1 13 (Int32.toNatClampNeg x1)
        refine ok_nmI (fun v32 hv32 he3 => ?_)
        have : 0 ≤ (σ.1 0 45).toInt ∧ (σ.1 0 45).toInt ≤ 80 := hI.1 0 45
        refine ok_eq (fun h4 => ?_) (fun h4 => ?_)
        · have : ((-1) : Int32).toInt = (-1) := by decide
          exact ok_some ⟨hI, by show (-1) ≤ ((-1) : Int32).toInt; omega, by show ((-1) : Int32).toInt ≤ 80; omega, by show (σ.1 0 9).toInt = t0; omega, by show (σ.1 0 3).toInt = n0; omega, by show KeM w0 σ; assumption⟩
        · have : 0 ≤ (σ.1 0 9).toInt ∧ (σ.1 0 9).toInt ≤ 10 := hI.1 0 9
          have : 0 ≤ (σ.1 0 3).toInt ∧ (σ.1 0 3).toInt ≤ 12 := hI.1 0 3
          exact sX12_reads_338 t0 n0 w0 σ hI (by omega) (by omega) (by first | assumption | exact KeM.rf _)
      · have : 0 ≤ (σ.1 0 9).toInt ∧ (σ.1 0 9).toInt ≤ 10 := hI.1 0 9
        have : 0 ≤ (σ.1 0 3).toInt ∧ (σ.1 0 3).toInt ≤ 12 := hI.1 0 3
        exact sX12_reads_338 t0 n0 w0 σ hI (by omega) (by omega) (by first | assumption | exact KeM.rf _)
    · refine ok_bi (sX12_here σ hI) (fun r33 hr5 => ?_)
      obtain ⟨p6, p7, p8⟩ := hr5
      have p6 : (-1) ≤ r33.toInt := p6
      have p7 : r33.toInt ≤ 255 := p7
      have p8 : r33.toInt ≠ -1 → (σ.1 0 45).toInt ≤ 79 := p8
      have : (99 : Int32).toInt = 99 := by decide
      refine ok_eq (fun h9 => ?_) (fun h9 => ?_)
      · have : (1 : Int32).toInt = 1 := by decide
        have : 0 ≤ (σ.1 0 9).toInt ∧ (σ.1 0 9).toInt ≤ 10 := hI.1 0 9
        have : 0 ≤ (σ.1 0 3).toInt ∧ (σ.1 0 3).toInt ≤ 12 := hI.1 0 3
        exact sX12_reads_89 t0 n0 w0 (fX12_reads_45 n) σ x1 x2 r33 1 hI (by omega) (by omega) (by omega) (by omega) (by omega) (by omega) (by omega) (by omega) (by omega) (by omega) (by first | assumption | exact KeM.rf _) (by omega) (fun y0 y1 y2 y3 q0 q1 q2 q3 q4 q5 q6 q7 q8 q9 q10 => ih y0 y1 y2 y3 q0 q1 q2 q3 q4 q5 q6 q7 q8 q9 (by omega))
      · have : (115 : Int32).toInt = 115 := by decide
        refine ok_eq (fun h10 => ?_) (fun h10 => ?_)
        · have : (2 : Int32).toInt = 2 := by decide
          have : 0 ≤ (σ.1 0 9).toInt ∧ (σ.1 0 9).toInt ≤ 10 := hI.1 0 9
          have : 0 ≤ (σ.1 0 3).toInt ∧ (σ.1 0 3).toInt ≤ 12 := hI.1 0 3
          exact sX12_reads_89 t0 n0 w0 (fX12_reads_45 n) σ x1 x2 r33 2 hI (by omega) (by omega) (by omega) (by omega) (by omega) (by omega) (by omega) (by omega) (by omega) (by omega) (by first | assumption | exact KeM.rf _) (by omega) (fun y0 y1 y2 y3 q0 q1 q2 q3 q4 q5 q6 q7 q8 q9 q10 => ih y0 y1 y2 y3 q0 q1 q2 q3 q4 q5 q6 q7 q8 q9 (by omega))
        · have : (112 : Int32).toInt = 112 := by decide
          refine ok_eq (fun h11 => ?_) (fun h11 => ?_)
          · have : (4 : Int32).toInt = 4 := by decide
            have : 0 ≤ (σ.1 0 9).toInt ∧ (σ.1 0 9).toInt ≤ 10 := hI.1 0 9
            have : 0 ≤ (σ.1 0 3).toInt ∧ (σ.1 0 3).toInt ≤ 12 := hI.1 0 3
            exact sX12_reads_89 t0 n0 w0 (fX12_reads_45 n) σ x1 x2 r33 4 hI (by omega) (by omega) (by omega) (by omega) (by omega) (by omega) (by omega) (by omega) (by omega) (by omega) (by first | assumption | exact KeM.rf _) (by omega) (fun y0 y1 y2 y3 q0 q1 q2 q3 q4 q5 q6 q7 q8 q9 q10 => ih y0 y1 y2 y3 q0 q1 q2 q3 q4 q5 q6 q7 q8 q9 (by omega))
          · have : 0 ≤ (σ.1 0 9).toInt ∧ (σ.1 0 9).toInt ≤ 10 := hI.1 0 9
            have : 0 ≤ (σ.1 0 3).toInt ∧ (σ.1 0 3).toInt ≤ 12 := hI.1 0 3
            exact sX12_reads_89 t0 n0 w0 (fX12_reads_45 n) σ x1 x2 r33 0 hI (by omega) (by omega) (by omega) (by omega) (by omega) (by omega) (by omega) (by omega) (by omega) (by omega) (by first | assumption | exact KeM.rf _) (by omega) (fun y0 y1 y2 y3 q0 q1 q2 q3 q4 q5 q6 q7 q8 q9 q10 => ih y0 y1 y2 y3 q0 q1 q2 q3 q4 q5 q6 q7 q8 q9 (by omega))

theorem sX12_reads_0 {g : Nat} (t0 : Int) (n0 : Int) (w0 : S2) (σ : S2) (x1 : Int32) (hI : IvM g σ) (p9000 : 0 ≤ x1.toInt) (p9001 : x1.toInt ≤ 10) (p9002 : (σ.1 0 9).toInt = t0) (p9003 : (σ.1 0 3).toInt = n0) (p9004 : KeM w0 σ)  : Ok (fun z => IvM g z.2 ∧ (-1) ≤ z.1.toInt ∧ z.1.toInt ≤ 80 ∧ (z.2.1 0 9).toInt = t0 ∧ (z.2.1 0 3).toInt = n0 ∧ KeM w0 z.2) (fX12_reads_0 σ x1) := by
  have hFU : ((FU : Nat) : Int) = 100000 := rfl
  unfold fX12_reads_0
  refine ok_nm (fun σ35 hs1 => ?_)
  have hI2 : IvM g σ35 := by rw [hs1]; exact IvM.wI hI rfl (show 0 ≤ (x1 : Int32).toInt by omega) (show (x1 : Int32).toInt ≤ 10 by omega)
  have : KeM w0 σ35 := by rw [hs1]; exact (show KeM w0 σ by assumption)
  have : (σ35.1 0 9).toInt = (σ.1 0 9).toInt := by rw [hs1]; rfl
  have : (σ35.1 0 45).toInt = (σ.1 0 45).toInt := by rw [hs1]; rfl
  have : (σ35.1 0 47).toInt = (σ.1 0 47).toInt := by rw [hs1]; rfl
  have : (σ35.1 0 3).toInt = (σ.1 0 3).toInt := by rw [hs1]; rfl
  have : (0 : Int32).toInt = 0 := by decide
  refine ok_nm (fun σ36 hs3 => ?_)
  have hI4 : IvM g σ36 := by rw [hs3]; exact IvM.wI hI2 rfl (show 0 ≤ (0 : Int32).toInt by omega) (show (0 : Int32).toInt ≤ 80 by omega)
  have : KeM w0 σ36 := by rw [hs3]; exact (show KeM w0 σ35 by assumption)
  have : (σ36.1 0 9).toInt = (σ35.1 0 9).toInt := by rw [hs3]; rfl
  have : (σ36.1 0 45).toInt = (0 : Int32).toInt := by rw [hs3]; rfl
  have : (σ36.1 0 47).toInt = (σ35.1 0 47).toInt := by rw [hs3]; rfl
  have : (σ36.1 0 3).toInt = (σ35.1 0 3).toInt := by rw [hs3]; rfl
  have : (σ36.1 0 44).toInt = (σ35.1 0 44).toInt := by rw [hs3]; rfl
  refine ok_nm (fun σ37 hs5 => ?_)
  have hI6 : IvM g σ37 := by rw [hs5]; exact IvM.wI hI4 rfl (show 0 ≤ (0 : Int32).toInt by omega) (show (0 : Int32).toInt ≤ 4 by omega)
  have : KeM w0 σ37 := by rw [hs5]; exact (show KeM w0 σ36 by assumption)
  have : (σ37.1 0 9).toInt = (σ36.1 0 9).toInt := by rw [hs5]; rfl
  have : (σ37.1 0 45).toInt = (σ36.1 0 45).toInt := by rw [hs5]; rfl
  have : (σ37.1 0 47).toInt = (σ36.1 0 47).toInt := by rw [hs5]; rfl
  have : (σ37.1 0 3).toInt = (σ36.1 0 3).toInt := by rw [hs5]; rfl
  have : (σ37.1 0 44).toInt = (σ36.1 0 44).toInt := by rw [hs5]; rfl
  refine ok_nm (fun σ38 hs7 => ?_)
  have hI8 : IvM g σ38 := by rw [hs7]; exact IvM.wI hI6 rfl (show 0 ≤ (0 : Int32).toInt by omega) (show (0 : Int32).toInt ≤ 1 by omega)
  have : KeM w0 σ38 := by rw [hs7]; exact (show KeM w0 σ37 by assumption)
  have : (σ38.1 0 9).toInt = (σ37.1 0 9).toInt := by rw [hs7]; rfl
  have : (σ38.1 0 45).toInt = (σ37.1 0 45).toInt := by rw [hs7]; rfl
  have : (σ38.1 0 47).toInt = (0 : Int32).toInt := by rw [hs7]; rfl
  have : (σ38.1 0 3).toInt = (σ37.1 0 3).toInt := by rw [hs7]; rfl
  have : (σ38.1 0 44).toInt = (σ37.1 0 44).toInt := by rw [hs7]; rfl
  have : (σ38.1 0 46).toInt = (σ37.1 0 46).toInt := by rw [hs7]; rfl
  refine ok_ck (by omega) (by omega) ?_
  have : (2 : Int32).toInt = 2 := by decide
  refine ok_nm (fun σ39 hs9 => ?_)
  have hI10 : IvM g σ39 := by rw [hs9]; exact IvM.wI hI8 rfl (show 0 ≤ (2 : Int32).toInt by omega) (show (2 : Int32).toInt ≤ 4 by omega)
  have : KeM w0 σ39 := by rw [hs9]; exact (show KeM w0 σ38 by assumption)
  have : (σ39.1 0 9).toInt = (σ38.1 0 9).toInt := by rw [hs9]; rfl
  have : (σ39.1 0 45).toInt = (σ38.1 0 45).toInt := by rw [hs9]; rfl
  have : (σ39.1 0 47).toInt = (σ38.1 0 47).toInt := by rw [hs9]; rfl
  have : (σ39.1 0 3).toInt = (σ38.1 0 3).toInt := by rw [hs9]; rfl
  have : (σ39.1 0 44).toInt = (σ38.1 0 44).toInt := by rw [hs9]; rfl
  have : (σ39.1 0 46).toInt = (σ38.1 0 46).toInt := by rw [hs9]; rfl
  refine ok_ck (by omega) (by omega) ?_
  have : (1 : Int32).toInt = 1 := by decide
  refine ok_nm (fun σ40 hs11 => ?_)
  have hI12 : IvM g σ40 := by rw [hs11]; exact IvM.wI hI10 rfl (show 0 ≤ (1 : Int32).toInt by omega) (show (1 : Int32).toInt ≤ 4 by omega)
  have : KeM w0 σ40 := by rw [hs11]; exact (show KeM w0 σ39 by assumption)
  have : (σ40.1 0 9).toInt = (σ39.1 0 9).toInt := by rw [hs11]; rfl
  have : (σ40.1 0 45).toInt = (σ39.1 0 45).toInt := by rw [hs11]; rfl
  have : (σ40.1 0 47).toInt = (σ39.1 0 47).toInt := by rw [hs11]; rfl
  have : (σ40.1 0 3).toInt = (σ39.1 0 3).toInt := by rw [hs11]; rfl
  have : (σ40.1 0 44).toInt = (σ39.1 0 44).toInt := by rw [hs11]; rfl
  have : (σ40.1 0 46).toInt = (σ39.1 0 46).toInt := by rw [hs11]; rfl
  refine ok_ck (by omega) (by omega) ?_
  refine ok_nm (fun σ41 hs13 => ?_)
  have hI14 : IvM g σ41 := by rw [hs13]; exact IvM.wI hI12 rfl (show (-49) ≤ (0 : Int32).toInt by omega) (show (0 : Int32).toInt ≤ 207 by omega)
  have : KeM w0 σ41 := by rw [hs13]; exact (show KeM w0 σ40 by assumption)
  have : (σ41.1 0 9).toInt = (σ40.1 0 9).toInt := by rw [hs13]; rfl
  have : (σ41.1 0 45).toInt = (σ40.1 0 45).toInt := by rw [hs13]; rfl
  have : (σ41.1 0 47).toInt = (σ40.1 0 47).toInt := by rw [hs13]; rfl
  have : (σ41.1 0 3).toInt = (σ40.1 0 3).toInt := by rw [hs13]; rfl
  have : (σ41.1 0 44).toInt = (σ40.1 0 44).toInt := by rw [hs13]; rfl
  have : (σ41.1 0 46).toInt = (σ40.1 0 46).toInt := by rw [hs13]; rfl
  have : 0 ≤ (σ41.1 0 9).toInt ∧ (σ41.1 0 9).toInt ≤ 10 := hI14.1 0 9
  have : 0 ≤ (σ41.1 0 3).toInt ∧ (σ41.1 0 3).toInt ≤ 12 := hI14.1 0 3
  exact sX12_reads_45 t0 n0 w0 FU σ41 x1 0 1 hI14 (by omega) (by omega) (by omega) (by omega) (by omega) (by omega) (by omega) (by omega) (by first | assumption | exact KeM.rf _) (by omega)

theorem sX12_reads {g : Nat} (t0 : Int) (n0 : Int) (w0 : S2) (σ : S2) (a1 : Int32) (hI : IvM g σ) (p9000 : 0 ≤ a1.toInt) (p9001 : a1.toInt ≤ 10) (p9002 : (σ.1 0 9).toInt = t0) (p9003 : (σ.1 0 3).toInt = n0) (p9004 : KeM w0 σ)  : Ok (fun z => IvM g z.2 ∧ (-1) ≤ z.1.toInt ∧ z.1.toInt ≤ 80 ∧ (z.2.1 0 9).toInt = t0 ∧ (z.2.1 0 3).toInt = n0 ∧ KeM w0 z.2) (fX12_reads σ a1) := by
  unfold fX12_reads
  exact sX12_reads_0 t0 n0 w0 σ a1 hI (by assumption) (by assumption) (by assumption) (by assumption) (by assumption)

theorem sX12_mixed_0 {g : Nat} (σ : S2) (x0 : Int32) (x1 : Int32) (x2 : Int32) (hI : IvM g σ) (p9000 : 0 ≤ x0.toInt) (p9001 : x0.toInt ≤ 999) (p9002 : x1.toInt ≤ 63)  : Ok (fun z => 0 ≤ z.toInt ∧ z.toInt ≤ 999) (fX12_mixed_0 σ x0 x1 x2) := by
  have hFU : ((FU : Nat) : Int) = 100000 := rfl
  unfold fX12_mixed_0
  have : (1000 : Int32).toInt = 1000 := by decide
  refine ok_dz (by omega) ?_
  have : 0 ≤ ((UInt32.toInt32 ((Int32.toUInt32 (((((x0 * 7919) + (x1 * 104729)) + x2) * 1103515245) + 12345)) >>> ((Int32.toUInt32 8) &&& (Int32.toUInt32 31)))) : Int32).toInt ∧ ((UInt32.toInt32 ((Int32.toUInt32 (((((x0 * 7919) + (x1 * 104729)) + x2) * 1103515245) + 12345)) >>> ((Int32.toUInt32 8) &&& (Int32.toUInt32 31)))) : Int32).toInt ≤ 16777215 := i32_ushr 8 (by decide) (by decide)
  have : (((UInt32.toInt32 ((Int32.toUInt32 (((((x0 * 7919) + (x1 * 104729)) + x2) * 1103515245) + 12345)) >>> ((Int32.toUInt32 8) &&& (Int32.toUInt32 31)))) - (((UInt32.toInt32 ((Int32.toUInt32 (((((x0 * 7919) + (x1 * 104729)) + x2) * 1103515245) + 12345)) >>> ((Int32.toUInt32 8) &&& (Int32.toUInt32 31)))) / 1000) * 1000)) : Int32).toInt = ((UInt32.toInt32 ((Int32.toUInt32 (((((x0 * 7919) + (x1 * 104729)) + x2) * 1103515245) + 12345)) >>> ((Int32.toUInt32 8) &&& (Int32.toUInt32 31)))) : Int32).toInt % 1000 := i32_rem (by first | decide | omega | rfl) (by omega) (by omega)
  exact ok_some ⟨by show 0 ≤ ((UInt32.toInt32 ((Int32.toUInt32 (((((x0 * 7919) + (x1 * 104729)) + x2) * 1103515245) + 12345)) >>> ((Int32.toUInt32 8) &&& (Int32.toUInt32 31)))) - (((UInt32.toInt32 ((Int32.toUInt32 (((((x0 * 7919) + (x1 * 104729)) + x2) * 1103515245) + 12345)) >>> ((Int32.toUInt32 8) &&& (Int32.toUInt32 31)))) / 1000) * 1000)).toInt; omega, by show ((UInt32.toInt32 ((Int32.toUInt32 (((((x0 * 7919) + (x1 * 104729)) + x2) * 1103515245) + 12345)) >>> ((Int32.toUInt32 8) &&& (Int32.toUInt32 31)))) - (((UInt32.toInt32 ((Int32.toUInt32 (((((x0 * 7919) + (x1 * 104729)) + x2) * 1103515245) + 12345)) >>> ((Int32.toUInt32 8) &&& (Int32.toUInt32 31)))) / 1000) * 1000)).toInt ≤ 999; omega⟩

theorem sX12_mixed {g : Nat} (σ : S2) (a0 : Int32) (a1 : Int32) (a2 : Int32) (hI : IvM g σ) (p9000 : 0 ≤ a0.toInt) (p9001 : a0.toInt ≤ 999) (p9002 : a1.toInt ≤ 63)  : Ok (fun z => 0 ≤ z.toInt ∧ z.toInt ≤ 999) (fX12_mixed σ a0 a1 a2) := by
  unfold fX12_mixed
  exact sX12_mixed_0 σ a0 a1 a2 hI (by assumption) (by assumption) (by assumption)

theorem sX12_isIn_0 {g : Nat} (σ : S2) (x1 : Int32) (x2 : Int32) (hI : IvM g σ) (p9000 : 0 ≤ x1.toInt) (p9001 : x1.toInt ≤ 10) (p9002 : 0 ≤ x2.toInt) (p9003 : x2.toInt ≤ 11)  : Ok (fun z => 0 ≤ z.toInt ∧ z.toInt ≤ 1 ∧ IiM σ x1 x2 z) (fX12_isIn_0 σ x1 x2) := by
  have hFU : ((FU : Nat) : Int) = 100000 := rfl
  unfold fX12_isIn_0
  refine ok_ck (by omega) (by omega) ?_
  have : 0 ≤ (σ.1 8 (Int32.toNatClampNeg x1)).toInt ∧ (σ.1 8 (Int32.toNatClampNeg x1)).toInt ≤ 4095 := hI.1 8 (Int32.toNatClampNeg x1)
  refine ok_nmI (fun v1 hv1 he1 => ?_)
  have : (31 : Int32).toInt = 31 := by decide
  have := i32_andR (a := x2) (m := 31) (by omega)
  have := i32_andL (a := x2) (m := 31) (by omega)
  have := i32_sar (a := v1) (k := (x2 &&& 31)) (by omega)
  have : (1 : Int32).toInt = 1 := by decide
  have := i32_andR (a := (v1 >>> (x2 &&& 31))) (m := 1) (by omega)
  refine ok_eq (fun h2 => ?_) (fun h2 => ?_)
  · exact ok_some ⟨by show 0 ≤ (1 : Int32).toInt; omega, by show (1 : Int32).toInt ≤ 1; omega, by show IiM σ x1 x2 (1 : Int32); first | exact IiM.one hv1 (by omega) (by omega) (by omega) (by omega) (by assumption) | exact IiM.zero hv1 (by omega) (by omega) (by omega) (by omega) (by assumption)⟩
  · have : (0 : Int32).toInt = 0 := by decide
    exact ok_some ⟨by show 0 ≤ (0 : Int32).toInt; omega, by show (0 : Int32).toInt ≤ 1; omega, by show IiM σ x1 x2 (0 : Int32); first | exact IiM.one hv1 (by omega) (by omega) (by omega) (by omega) (by assumption) | exact IiM.zero hv1 (by omega) (by omega) (by omega) (by omega) (by assumption)⟩

theorem sX12_isIn {g : Nat} (σ : S2) (a1 : Int32) (a2 : Int32) (hI : IvM g σ) (p9000 : 0 ≤ a1.toInt) (p9001 : a1.toInt ≤ 10) (p9002 : 0 ≤ a2.toInt) (p9003 : a2.toInt ≤ 11)  : Ok (fun z => 0 ≤ z.toInt ∧ z.toInt ≤ 1 ∧ IiM σ a1 a2 z) (fX12_isIn σ a1 a2) := by
  unfold fX12_isIn
  exact sX12_isIn_0 σ a1 a2 hI (by assumption) (by assumption) (by assumption) (by assumption)

theorem sX12_numbers_145 {g : Nat} (t0 : Int) (n0 : Int) (w0 : S2) (k24 : S2 → Int32 → Int32 → Int32 → Option (Unit × S2)) (σ : S2) (x1 : Int32) (x2 : Int32) (x3 : Int32) (hI : IvM g σ) (p9000 : 0 ≤ x1.toInt) (p9001 : x1.toInt ≤ 10) (p9002 : 0 ≤ x2.toInt) (p9003 : x2.toInt ≤ 63) (p9004 : 0 ≤ x3.toInt) (p9005 : x3.toInt ≤ 11) (p9006 : (σ.1 0 9).toInt = t0) (p9007 : (σ.1 0 3).toInt = n0) (p9008 : KeM w0 σ) (hk24 : ∀ (y0 : S2) (y1 : Int32) (y2 : Int32) (y3 : Int32), IvM g y0 → 0 ≤ y1.toInt → y1.toInt ≤ 10 → 0 ≤ y2.toInt → y2.toInt ≤ 63 → 0 ≤ y3.toInt → y3.toInt ≤ 12 → (y0.1 0 9).toInt = t0 → (y0.1 0 3).toInt = n0 → KeM w0 y0 → x3.toInt + 1 ≤ y3.toInt → Ok (fun z => IvM g z.2 ∧ (z.2.1 0 9).toInt = t0 ∧ (z.2.1 0 3).toInt = n0 ∧ KeM w0 z.2) (k24 y0 y1 y2 y3)) : Ok (fun z => IvM g z.2 ∧ (z.2.1 0 9).toInt = t0 ∧ (z.2.1 0 3).toInt = n0 ∧ KeM w0 z.2) (fX12_numbers_145 k24 σ x1 x2 x3) := by
  have hFU : ((FU : Nat) : Int) = 100000 := rfl
  unfold fX12_numbers_145
  have : (1 : Int32).toInt = 1 := by decide
  have : ((x3 + 1) : Int32).toInt = (x3 : Int32).toInt + (1 : Int32).toInt := i32_add (by omega) (by omega)
  refine ok_nmI (fun v1 hv1 he1 => ?_)
  have : 0 ≤ (σ.1 0 9).toInt ∧ (σ.1 0 9).toInt ≤ 10 := hI.1 0 9
  have : 0 ≤ (σ.1 0 3).toInt ∧ (σ.1 0 3).toInt ≤ 12 := hI.1 0 3
  exact hk24 σ x1 x2 v1 hI (by omega) (by omega) (by omega) (by omega) (by omega) (by omega) (by omega) (by omega) (by first | assumption | exact KeM.rf _) (by omega)

theorem sX12_numbers_142 {g : Nat} (t0 : Int) (n0 : Int) (w0 : S2) (k24 : S2 → Int32 → Int32 → Int32 → Option (Unit × S2)) (σ : S2) (x1 : Int32) (x2 : Int32) (x3 : Int32) (s0 : Int32) (hI : IvM g σ) (p9000 : 0 ≤ x1.toInt) (p9001 : x1.toInt ≤ 10) (p9002 : 0 ≤ x2.toInt) (p9003 : x2.toInt ≤ 63) (p9004 : 0 ≤ x3.toInt) (p9005 : x3.toInt ≤ 11) (p9006 : 0 ≤ s0.toInt) (p9007 : s0.toInt ≤ 16) (p9008 : (σ.1 0 9).toInt = t0) (p9009 : (σ.1 0 3).toInt = n0) (p9010 : KeM w0 σ) (hk24 : ∀ (y0 : S2) (y1 : Int32) (y2 : Int32) (y3 : Int32), IvM g y0 → 0 ≤ y1.toInt → y1.toInt ≤ 10 → 0 ≤ y2.toInt → y2.toInt ≤ 63 → 0 ≤ y3.toInt → y3.toInt ≤ 12 → (y0.1 0 9).toInt = t0 → (y0.1 0 3).toInt = n0 → KeM w0 y0 → x3.toInt + 1 ≤ y3.toInt → Ok (fun z => IvM g z.2 ∧ (z.2.1 0 9).toInt = t0 ∧ (z.2.1 0 3).toInt = n0 ∧ KeM w0 z.2) (k24 y0 y1 y2 y3)) : Ok (fun z => IvM g z.2 ∧ (z.2.1 0 9).toInt = t0 ∧ (z.2.1 0 3).toInt = n0 ∧ KeM w0 z.2) (fX12_numbers_142 k24 σ x1 x2 x3 s0) := by
  have hFU : ((FU : Nat) : Int) = 100000 := rfl
  unfold fX12_numbers_142
  refine ok_nm (fun σ2 hs1 => ?_)
  have hI2 : IvM g σ2 := by rw [hs1]; exact IvM.wI hI rfl (show 0 ≤ (s0 : Int32).toInt by omega) (show (s0 : Int32).toInt ≤ 16 by omega)
  have : KeM w0 σ2 := by rw [hs1]; exact (show KeM w0 σ by assumption)
  have : (σ2.1 0 9).toInt = (σ.1 0 9).toInt := by rw [hs1]; rfl
  have : (σ2.1 0 3).toInt = (σ.1 0 3).toInt := by rw [hs1]; rfl
  have : 0 ≤ (σ2.1 0 9).toInt ∧ (σ2.1 0 9).toInt ≤ 10 := hI2.1 0 9
  have : 0 ≤ (σ2.1 0 3).toInt ∧ (σ2.1 0 3).toInt ≤ 12 := hI2.1 0 3
  exact sX12_numbers_145 t0 n0 w0 k24 σ2 x1 x2 x3 hI2 (by omega) (by omega) (by omega) (by omega) (by omega) (by omega) (by omega) (by omega) (by first | assumption | exact KeM.rf _) (fun y0 y1 y2 y3 q0 q1 q2 q3 q4 q5 q6 q7 q8 q9 q10 => hk24 y0 y1 y2 y3 q0 q1 q2 q3 q4 q5 q6 q7 q8 q9 (by omega))

theorem sX12_numbers_92 {g : Nat} (t0 : Int) (n0 : Int) (w0 : S2) (k24 : S2 → Int32 → Int32 → Int32 → Option (Unit × S2)) (σ : S2) (x1 : Int32) (x2 : Int32) (x3 : Int32) (x4 : Int32) (s0 : Int32) (s1 : Int32) (hI : IvM g σ) (p9000 : 0 ≤ x1.toInt) (p9001 : x1.toInt ≤ 10) (p9002 : 0 ≤ x2.toInt) (p9003 : x2.toInt ≤ 63) (p9004 : 0 ≤ x3.toInt) (p9005 : x3.toInt ≤ 11) (p9006 : 0 ≤ x4.toInt) (p9007 : x4.toInt ≤ 16) (p9008 : 0 ≤ s0.toInt) (p9009 : s0.toInt ≤ 1) (p9010 : (σ.1 0 9).toInt = t0) (p9011 : (σ.1 0 3).toInt = n0) (p9012 : KeM w0 σ) (hk24 : ∀ (y0 : S2) (y1 : Int32) (y2 : Int32) (y3 : Int32), IvM g y0 → 0 ≤ y1.toInt → y1.toInt ≤ 10 → 0 ≤ y2.toInt → y2.toInt ≤ 63 → 0 ≤ y3.toInt → y3.toInt ≤ 12 → (y0.1 0 9).toInt = t0 → (y0.1 0 3).toInt = n0 → KeM w0 y0 → x3.toInt + 1 ≤ y3.toInt → Ok (fun z => IvM g z.2 ∧ (z.2.1 0 9).toInt = t0 ∧ (z.2.1 0 3).toInt = n0 ∧ KeM w0 z.2) (k24 y0 y1 y2 y3)) : Ok (fun z => IvM g z.2 ∧ (z.2.1 0 9).toInt = t0 ∧ (z.2.1 0 3).toInt = n0 ∧ KeM w0 z.2) (fX12_numbers_92 k24 σ x1 x2 x3 x4 s0 s1) := by
  have hFU : ((FU : Nat) : Int) = 100000 := rfl
  unfold fX12_numbers_92
  have := i32_rng s1
  have := i32_rng (s1 + s0)
  refine ok_nm (fun σ3 hs1 => ?_)
  have hI2 : IvM g σ3 := by rw [hs1]; exact IvM.wI hI rfl (i32_rng _).1 (i32_rng _).2
  have : KeM w0 σ3 := by rw [hs1]; exact (show KeM w0 σ by assumption)
  have : (σ3.1 0 9).toInt = (σ.1 0 9).toInt := by rw [hs1]; rfl
  have : (σ3.1 0 3).toInt = (σ.1 0 3).toInt := by rw [hs1]; rfl
  have : (12 : Int32).toInt = 12 := by decide
  have : ((12 * x1) : Int32).toInt = 12 * (x1 : Int32).toInt := i32_mulL (by omega) (by omega) (by omega)
  have : (((12 * x1) + x3) : Int32).toInt = ((12 * x1) : Int32).toInt + (x3 : Int32).toInt := i32_add (by omega) (by omega)
  refine ok_ck (by omega) (by omega) ?_
  have : 0 ≤ (σ3.1 16 (Int32.toNatClampNeg ((12 * x1) + x3))).toInt ∧ (σ3.1 16 (Int32.toNatClampNeg ((12 * x1) + x3))).toInt ≤ 5 := hI2.1 16 (Int32.toNatClampNeg ((12 * x1) + x3))
  refine ok_nmI (fun v4 hv4 he3 => ?_)
  have : (1 : Int32).toInt = 1 := by decide
  have : (31 : Int32).toInt = 31 := by decide
  have := i32_andR (a := v4) (m := 31) (by omega)
  have := i32_andL (a := v4) (m := 31) (by omega)
  have : 1 ≤ ((1 <<< (v4 &&& 31)) : Int32).toInt ∧ ((1 <<< (v4 &&& 31)) : Int32).toInt ≤ 32 := i32_shlB 5 (by omega) (by omega) (by decide)
  have := i32_orB (a := x2) (b := (1 <<< (v4 &&& 31))) 6 63 (by decide) (by decide) (by omega) (by omega) (by omega) (by omega)
  refine ok_nmI (fun v5 hv5 he4 => ?_)
  have := i32_rng (σ3.1 0 50)
  have := i32_rng ((σ3.1 0 50) + x4)
  refine ok_nm (fun σ6 hs5 => ?_)
  have hI6 : IvM g σ6 := by rw [hs5]; exact IvM.wI hI2 rfl (i32_rng _).1 (i32_rng _).2
  have : KeM w0 σ6 := by rw [hs5]; exact (show KeM w0 σ3 by assumption)
  have : (σ6.1 0 9).toInt = (σ3.1 0 9).toInt := by rw [hs5]; rfl
  have : (σ6.1 0 3).toInt = (σ3.1 0 3).toInt := by rw [hs5]; rfl
  have : (σ6.1 0 49).toInt = (σ3.1 0 49).toInt := by rw [hs5]; rfl
  have : 0 ≤ (σ6.1 0 51).toInt ∧ (σ6.1 0 51).toInt ≤ 16 := hI6.1 0 51
  refine ok_le (fun h7 => ?_) (fun h7 => ?_)
  · have : 0 ≤ (σ6.1 0 9).toInt ∧ (σ6.1 0 9).toInt ≤ 10 := hI6.1 0 9
    have : 0 ≤ (σ6.1 0 3).toInt ∧ (σ6.1 0 3).toInt ≤ 12 := hI6.1 0 3
    exact sX12_numbers_142 t0 n0 w0 k24 σ6 x1 v5 x3 (σ6.1 0 51) hI6 (by omega) (by omega) (by omega) (by omega) (by omega) (by omega) (by omega) (by omega) (by omega) (by omega) (by first | assumption | exact KeM.rf _) (fun y0 y1 y2 y3 q0 q1 q2 q3 q4 q5 q6 q7 q8 q9 q10 => hk24 y0 y1 y2 y3 q0 q1 q2 q3 q4 q5 q6 q7 q8 q9 (by omega))
  · have : 0 ≤ (σ6.1 0 9).toInt ∧ (σ6.1 0 9).toInt ≤ 10 := hI6.1 0 9
    have : 0 ≤ (σ6.1 0 3).toInt ∧ (σ6.1 0 3).toInt ≤ 12 := hI6.1 0 3
    exact sX12_numbers_142 t0 n0 w0 k24 σ6 x1 v5 x3 x4 hI6 (by omega) (by omega) (by omega) (by omega) (by omega) (by omega) (by omega) (by omega) (by omega) (by omega) (by first | assumption | exact KeM.rf _) (fun y0 y1 y2 y3 q0 q1 q2 q3 q4 q5 q6 q7 q8 q9 q10 => hk24 y0 y1 y2 y3 q0 q1 q2 q3 q4 q5 q6 q7 q8 q9 (by omega))

theorem sX12_numbers_24 {g : Nat} (t0 : Int) (n0 : Int) (w0 : S2) : ∀ (n : Nat) (σ : S2) (x1 : Int32) (x2 : Int32) (x3 : Int32), IvM g σ → 0 ≤ x1.toInt → x1.toInt ≤ 10 → 0 ≤ x2.toInt → x2.toInt ≤ 63 → 0 ≤ x3.toInt → x3.toInt ≤ 12 → (σ.1 0 9).toInt = t0 → (σ.1 0 3).toInt = n0 → KeM w0 σ → 12 - x3.toInt < (n : Int) → Ok (fun z => IvM g z.2 ∧ (z.2.1 0 9).toInt = t0 ∧ (z.2.1 0 3).toInt = n0 ∧ KeM w0 z.2) (fX12_numbers_24 n σ x1 x2 x3) := by
  have hFU : ((FU : Nat) : Int) = 100000 := rfl
  intro n
  induction n with
  | zero => intro σ x1 x2 x3 hI p9000 p9001 p9002 p9003 p9004 p9005 p9006 p9007 p9008 hm; exfalso; omega
  | succ n ih =>
    intro σ x1 x2 x3 hI p9000 p9001 p9002 p9003 p9004 p9005 p9006 p9007 p9008 hm
    unfold fX12_numbers_24
    have : 0 ≤ (σ.1 0 3).toInt ∧ (σ.1 0 3).toInt ≤ 12 := hI.1 0 3
    refine ok_le (fun h1 => ?_) (fun h1 => ?_)
    · exact ok_some ⟨hI, by show (σ.1 0 9).toInt = t0; omega, by show (σ.1 0 3).toInt = n0; omega, by show KeM w0 σ; assumption⟩
    · refine ok_bi (sX12_isIn σ x1 x3 hI (by omega) (by omega) (by omega) (by omega)) (fun r7 hr2 => ?_)
      obtain ⟨p3, p4, p5⟩ := hr2
      have p3 : 0 ≤ r7.toInt := p3
      have p4 : r7.toInt ≤ 1 := p4
      have p5 : IiM σ x1 x3 r7 := p5
      have : (0 : Int32).toInt = 0 := by decide
      refine ok_eq (fun h6 => ?_) (fun h6 => ?_)
      · have : 0 ≤ (σ.1 0 9).toInt ∧ (σ.1 0 9).toInt ≤ 10 := hI.1 0 9
        exact sX12_numbers_145 t0 n0 w0 (fX12_numbers_24 n) σ x1 x2 x3 hI (by omega) (by omega) (by omega) (by omega) (by omega) (by omega) (by omega) (by omega) (by first | assumption | exact KeM.rf _) (fun y0 y1 y2 y3 q0 q1 q2 q3 q4 q5 q6 q7 q8 q9 q10 => ih y0 y1 y2 y3 q0 q1 q2 q3 q4 q5 q6 q7 q8 q9 (by omega))
      · have : (12 : Int32).toInt = 12 := by decide
        have : ((12 * x1) : Int32).toInt = 12 * (x1 : Int32).toInt := i32_mulL (by omega) (by omega) (by omega)
        have : (((12 * x1) + x3) : Int32).toInt = ((12 * x1) : Int32).toInt + (x3 : Int32).toInt := i32_add (by omega) (by omega)
        refine ok_ck (by omega) (by omega) ?_
        have : 0 ≤ (σ.1 15 (Int32.toNatClampNeg ((12 * x1) + x3))).toInt ∧ (σ.1 15 (Int32.toNatClampNeg ((12 * x1) + x3))).toInt ≤ 16 := hI.1 15 (Int32.toNatClampNeg ((12 * x1) + x3))
        refine ok_nmI (fun v9 hv9 he7 => ?_)
        have := i32_rng (σ.1 0 48)
        have : (1 : Int32).toInt = 1 := by decide
        have := i32_rng ((σ.1 0 48) + 1)
        refine ok_nm (fun σ10 hs8 => ?_)
        have hI9 : IvM g σ10 := by rw [hs8]; exact IvM.wI hI rfl (i32_rng _).1 (i32_rng _).2
        have : KeM w0 σ10 := by rw [hs8]; exact (show KeM w0 σ by assumption)
        have : (σ10.1 0 9).toInt = (σ.1 0 9).toInt := by rw [hs8]; rfl
        have : (σ10.1 0 3).toInt = (σ.1 0 3).toInt := by rw [hs8]; rfl
        refine ok_ck (by omega) (by omega) ?_
        have : 0 ≤ (σ10.1 16 (Int32.toNatClampNeg ((12 * x1) + x3))).toInt ∧ (σ10.1 16 (Int32.toNatClampNeg ((12 * x1) + x3))).toInt ≤ 5 := hI9.1 16 (Int32.toNatClampNeg ((12 * x1) + x3))
        refine ok_nmI (fun v11 hv11 he10 => ?_)
        have : (31 : Int32).toInt = 31 := by decide
        have := i32_andR (a := v11) (m := 31) (by omega)
        have := i32_andL (a := v11) (m := 31) (by omega)
        have := i32_sar (a := x2) (k := (v11 &&& 31)) (by omega)
        have := i32_andR (a := (x2 >>> (v11 &&& 31))) (m := 1) (by omega)
        refine ok_eq (fun h11 => ?_) (fun h11 => ?_)
        · have := i32_rng (σ10.1 0 49)
          have : 0 ≤ (σ10.1 0 9).toInt ∧ (σ10.1 0 9).toInt ≤ 10 := hI9.1 0 9
          have : 0 ≤ (σ10.1 0 3).toInt ∧ (σ10.1 0 3).toInt ≤ 12 := hI9.1 0 3
          exact sX12_numbers_92 t0 n0 w0 (fX12_numbers_24 n) σ10 x1 x2 x3 v9 1 (σ10.1 0 49) hI9 (by omega) (by omega) (by omega) (by omega) (by omega) (by omega) (by omega) (by omega) (by omega) (by omega) (by omega) (by omega) (by first | assumption | exact KeM.rf _) (fun y0 y1 y2 y3 q0 q1 q2 q3 q4 q5 q6 q7 q8 q9 q10 => ih y0 y1 y2 y3 q0 q1 q2 q3 q4 q5 q6 q7 q8 q9 (by omega))
        · have := i32_rng (σ10.1 0 49)
          have : 0 ≤ (σ10.1 0 9).toInt ∧ (σ10.1 0 9).toInt ≤ 10 := hI9.1 0 9
          have : 0 ≤ (σ10.1 0 3).toInt ∧ (σ10.1 0 3).toInt ≤ 12 := hI9.1 0 3
          exact sX12_numbers_92 t0 n0 w0 (fX12_numbers_24 n) σ10 x1 x2 x3 v9 0 (σ10.1 0 49) hI9 (by omega) (by omega) (by omega) (by omega) (by omega) (by omega) (by omega) (by omega) (by omega) (by omega) (by omega) (by omega) (by first | assumption | exact KeM.rf _) (fun y0 y1 y2 y3 q0 q1 q2 q3 q4 q5 q6 q7 q8 q9 q10 => ih y0 y1 y2 y3 q0 q1 q2 q3 q4 q5 q6 q7 q8 q9 (by omega))

theorem sX12_numbers_0 {g : Nat} (t0 : Int) (n0 : Int) (w0 : S2) (σ : S2) (x1 : Int32) (hI : IvM g σ) (p9000 : 0 ≤ x1.toInt) (p9001 : x1.toInt ≤ 10) (p9002 : (σ.1 0 9).toInt = t0) (p9003 : (σ.1 0 3).toInt = n0) (p9004 : KeM w0 σ)  : Ok (fun z => IvM g z.2 ∧ (z.2.1 0 9).toInt = t0 ∧ (z.2.1 0 3).toInt = n0 ∧ KeM w0 z.2) (fX12_numbers_0 σ x1) := by
  have hFU : ((FU : Nat) : Int) = 100000 := rfl
  unfold fX12_numbers_0
  have : (0 : Int32).toInt = 0 := by decide
  refine ok_nm (fun σ12 hs1 => ?_)
  have hI2 : IvM g σ12 := by rw [hs1]; exact IvM.wI hI rfl (i32_rng _).1 (i32_rng _).2
  have : KeM w0 σ12 := by rw [hs1]; exact (show KeM w0 σ by assumption)
  have : (σ12.1 0 9).toInt = (σ.1 0 9).toInt := by rw [hs1]; rfl
  have : (σ12.1 0 3).toInt = (σ.1 0 3).toInt := by rw [hs1]; rfl
  refine ok_nm (fun σ13 hs3 => ?_)
  have hI4 : IvM g σ13 := by rw [hs3]; exact IvM.wI hI2 rfl (i32_rng _).1 (i32_rng _).2
  have : KeM w0 σ13 := by rw [hs3]; exact (show KeM w0 σ12 by assumption)
  have : (σ13.1 0 9).toInt = (σ12.1 0 9).toInt := by rw [hs3]; rfl
  have : (σ13.1 0 3).toInt = (σ12.1 0 3).toInt := by rw [hs3]; rfl
  have : (σ13.1 0 48).toInt = (σ12.1 0 48).toInt := by rw [hs3]; rfl
  refine ok_nm (fun σ14 hs5 => ?_)
  have hI6 : IvM g σ14 := by rw [hs5]; exact IvM.wI hI4 rfl (i32_rng _).1 (i32_rng _).2
  have : KeM w0 σ14 := by rw [hs5]; exact (show KeM w0 σ13 by assumption)
  have : (σ14.1 0 9).toInt = (σ13.1 0 9).toInt := by rw [hs5]; rfl
  have : (σ14.1 0 3).toInt = (σ13.1 0 3).toInt := by rw [hs5]; rfl
  have : (σ14.1 0 48).toInt = (σ13.1 0 48).toInt := by rw [hs5]; rfl
  have : (σ14.1 0 49).toInt = (σ13.1 0 49).toInt := by rw [hs5]; rfl
  refine ok_nm (fun σ15 hs7 => ?_)
  have hI8 : IvM g σ15 := by rw [hs7]; exact IvM.wI hI6 rfl (show 0 ≤ (0 : Int32).toInt by omega) (show (0 : Int32).toInt ≤ 16 by omega)
  have : KeM w0 σ15 := by rw [hs7]; exact (show KeM w0 σ14 by assumption)
  have : (σ15.1 0 9).toInt = (σ14.1 0 9).toInt := by rw [hs7]; rfl
  have : (σ15.1 0 3).toInt = (σ14.1 0 3).toInt := by rw [hs7]; rfl
  have : (σ15.1 0 48).toInt = (σ14.1 0 48).toInt := by rw [hs7]; rfl
  have : (σ15.1 0 49).toInt = (σ14.1 0 49).toInt := by rw [hs7]; rfl
  have : (σ15.1 0 50).toInt = (σ14.1 0 50).toInt := by rw [hs7]; rfl
  have : 0 ≤ (σ15.1 0 9).toInt ∧ (σ15.1 0 9).toInt ≤ 10 := hI8.1 0 9
  have : 0 ≤ (σ15.1 0 3).toInt ∧ (σ15.1 0 3).toInt ≤ 12 := hI8.1 0 3
  exact sX12_numbers_24 t0 n0 w0 FU σ15 x1 0 0 hI8 (by omega) (by omega) (by omega) (by omega) (by omega) (by omega) (by omega) (by omega) (by first | assumption | exact KeM.rf _) (by omega)

theorem sX12_numbers {g : Nat} (t0 : Int) (n0 : Int) (w0 : S2) (σ : S2) (a1 : Int32) (hI : IvM g σ) (p9000 : 0 ≤ a1.toInt) (p9001 : a1.toInt ≤ 10) (p9002 : (σ.1 0 9).toInt = t0) (p9003 : (σ.1 0 3).toInt = n0) (p9004 : KeM w0 σ)  : Ok (fun z => IvM g z.2 ∧ (z.2.1 0 9).toInt = t0 ∧ (z.2.1 0 3).toInt = n0 ∧ KeM w0 z.2) (fX12_numbers σ a1) := by
  unfold fX12_numbers
  exact sX12_numbers_0 t0 n0 w0 σ a1 hI (by assumption) (by assumption) (by assumption) (by assumption) (by assumption)

theorem seat_ix {x1 x4 : Int32} (h0 : 0 ≤ x1.toInt) (h1 : x1.toInt ≤ 10) (h2 : 0 ≤ x4.toInt) (h3 : x4.toInt ≤ 999) : 0 ≤ ((1000 * x1) + x4).toInt ∧ ((1000 * x1) + x4).toInt < 11000 ∧ Int32.toNatClampNeg ((1000 * x1) + x4) = 1000 * Int32.toNatClampNeg x1 + Int32.toNatClampNeg x4 := by
  have e1 := i32_nat h0
  have e2 := i32_nat h2
  have e12 : (1000 : Int32).toInt = 1000 := rfl
  have em : (1000 * x1).toInt = 1000 * x1.toInt := i32_mulL e12 (by omega) (by omega)
  have ea : ((1000 * x1) + x4).toInt = 1000 * x1.toInt + x4.toInt := by rw [i32_add (by omega) (by omega), em]
  have en := i32_nat (i := (1000 * x1) + x4) (by omega)
  omega
theorem next_ix {x : Int32} (h0 : 0 ≤ x.toInt) (h1 : x.toInt ≤ 999) : ((x + 1) - (x + 1) / 1000 * 1000).toInt = (x.toInt + 1) % 1000 := by
  have e1 : (1 : Int32).toInt = 1 := rfl
  have e12 : (1000 : Int32).toInt = 1000 := rfl
  have ea : (x + 1).toInt = x.toInt + 1 := by rw [i32_add (by omega) (by omega), e1]
  rw [i32_rem e12 (by omega) (by omega), ea]
noncomputable def cnS (f : Nat → Int32) : Nat → Int
  | 0 => 0
  | n + 1 => cnS f n + (if (f n).toInt = -1 then 0 else 1)
theorem cnS_free {f : Nat → Int32} : ∀ n : Nat, cnS f n < (n : Int) → ∃ p, p < n ∧ (f p).toInt = -1 := by
  intro n
  induction n with
  | zero => intro h; have : cnS f 0 = 0 := rfl; exfalso; omega
  | succ n ih =>
    intro h
    have e : cnS f (n + 1) = cnS f n + (if (f n).toInt = -1 then 0 else 1) := rfl
    by_cases q : (f n).toInt = -1
    · exact ⟨n, by omega, q⟩
    · rw [if_neg q] at e
      obtain ⟨p, hp, r⟩ := ih (by omega)
      exact ⟨p, by omega, r⟩
theorem cnS_zero {f : Nat → Int32} : ∀ n : Nat, (∀ p, p < n → (f p).toInt = -1) → cnS f n = 0 := by
  intro n
  induction n with
  | zero => intro _; rfl
  | succ n ih =>
    intro h
    have e : cnS f (n + 1) = cnS f n + (if (f n).toInt = -1 then 0 else 1) := rfl
    rw [e, ih (fun p hp => h p (by omega)), if_pos (h n (by omega))]; rfl
theorem cnS_same {f f' : Nat → Int32} : ∀ n : Nat, (∀ p, p < n → f' p = f p) → cnS f' n = cnS f n := by
  intro n
  induction n with
  | zero => intro _; rfl
  | succ n ih =>
    intro h
    have e : cnS f (n + 1) = cnS f n + (if (f n).toInt = -1 then 0 else 1) := rfl
    have e' : cnS f' (n + 1) = cnS f' n + (if (f' n).toInt = -1 then 0 else 1) := rfl
    rw [e, e', ih (fun p hp => h p (by omega)), h n (by omega)]
theorem cnS_step {f f' : Nat → Int32} {q : Nat} (h : ∀ p, p ≠ q → f' p = f p) : ∀ n : Nat, cnS f' n ≤ cnS f n + 1 := by
  intro n
  induction n with
  | zero => exact (show (0 : Int) ≤ 0 + 1 by decide)
  | succ n ih =>
    have e : cnS f (n + 1) = cnS f n + (if (f n).toInt = -1 then 0 else 1) := rfl
    have e' : cnS f' (n + 1) = cnS f' n + (if (f' n).toInt = -1 then 0 else 1) := rfl
    have b : ∀ x : Int, (0 : Int) ≤ (if x = -1 then 0 else 1) ∧ (if x = -1 then (0 : Int) else 1) ≤ 1 := fun x => by split <;> omega
    have b1 := b (f n).toInt
    have b2 := b (f' n).toInt
    by_cases c : n = q
    · subst c
      rw [e, e', cnS_same n (fun p hp => h p (by omega))]; omega
    · rw [e, e', h n c]; omega
noncomputable def seM (σ : S2) (t : Nat) (p : Nat) : Int32 := σ.1 18 (1000 * t + p)
noncomputable def HsM (σ : S2) (t k : Nat) : Prop := ∃ p, p < 1000 ∧ (σ.1 18 (1000 * t + p)).toInt = (k : Int)
noncomputable def SiM (σ : S2) (t : Nat) (k j : Int) : Prop := CoM σ t ∧ cnS (seM σ t) 1000 ≤ 64 * k + j ∧ (∀ p, p < 1000 → (σ.1 18 (1000 * t + p)).toInt = -1 ∨ (0 ≤ (σ.1 18 (1000 * t + p)).toInt ∧ (σ.1 8 t).toInt.toNat.testBit (σ.1 18 (1000 * t + p)).toInt.toNat = true)) ∧ (∀ k' : Nat, (k' : Int) < k → (σ.1 8 t).toInt.toNat.testBit k' = true → HsM σ t k') ∧ (1 ≤ j → HsM σ t k.toNat)
noncomputable def StM (g : Nat) (σ τ : S2) (t : Nat) (x : Int32) : Prop := IvM g τ ∧ τ.1 0 = σ.1 0 ∧ τ.1 8 = σ.1 8 ∧ τ.1 15 = σ.1 15 ∧ ∃ q, q < 1000 ∧ (σ.1 18 (1000 * t + q)).toInt = -1 ∧ τ.1 18 (1000 * t + q) = x ∧ ∀ i, i ≠ 1000 * t + q → τ.1 18 i = σ.1 18 i
theorem SiM.st {g : Nat} {σ τ : S2} {t : Nat} {k j : Int} {x : Int32} (h : SiM σ t k j) (hs : StM g σ τ t x) (hk : 0 ≤ k) (hx : x.toInt = k) (hb : (σ.1 8 t).toInt.toNat.testBit k.toNat = true) (hj : 0 ≤ j) : SiM τ t k (j + 1) := by
  obtain ⟨h1, h2, h3, h4, h5⟩ := h
  obtain ⟨_, s0, s8, s15, q, hq, hm, hqx, hne⟩ := hs
  have keep : ∀ k', HsM σ t k' → HsM τ t k' := by
    rintro k' ⟨p, hp, e⟩
    refine ⟨p, hp, ?_⟩
    rw [hne _ (fun r => ?_)]
    · exact e
    · have : p = q := by omega
      subst this; omega
  refine ⟨?_, ?_, fun p hp => ?_, fun k' hk' hb' => ?_, fun _ => ⟨q, hq, ?_⟩⟩
  · unfold CoM; rw [s0, s8, s15]; exact h1
  · have := cnS_step (f := seM σ t) (f' := seM τ t) (q := q) (fun p hp => hne _ (by omega)) 1000
    omega
  · by_cases e : p = q
    · subst e; rw [hqx, s8]; right; rw [hx]; exact ⟨hk, hb⟩
    · rw [hne _ (by omega), s8]; exact h3 p hp
  · exact keep _ (h4 k' hk' (by rw [← s8]; exact hb'))
  · rw [hqx, hx]; omega
theorem SiM.next {σ : S2} {t : Nat} {k j : Int} (h : SiM σ t k j) (hk : 0 ≤ k) (hj : j ≤ 64) (hb : (σ.1 8 t).toInt.toNat.testBit k.toNat = true → 1 ≤ j) : SiM σ t (k + 1) 0 := by
  obtain ⟨h1, h2, h3, h4, h5⟩ := h
  refine ⟨h1, by omega, h3, fun k' hk' hb' => ?_, fun q => by exfalso; omega⟩
  by_cases e : (k' : Int) < k
  · exact h4 k' e hb'
  · have : k.toNat = k' := by omega
    rw [this] at hb h5
    exact h5 (hb hb')
theorem SiM.fa {σ : S2} {t : Nat} {k : Int} (h : SiM σ t k 0) (hk : (σ.1 0 3).toInt ≤ k) : FaM σ t := by
  obtain ⟨h1, h2, h3, h4, h5⟩ := h
  refine ⟨h1, fun k' _ hb => ?_, Or.inr h3⟩
  have := testBit_lt (toNat_lt2 h1.1.1 h1.1.2) hb
  exact h4 k' (by omega) hb
section SI
variable {g : Nat} {Q : Unit × S2 → Prop}
theorem si_walk (k75 : S2 → Int32 → Int32 → Int32 → Int32 → Option (Unit × S2)) : ∀ (d n : Nat) (σ : S2) (x1 x2 x3 x4 x5 : Int32) (q : Nat), d < n → IvM g σ → 0 ≤ x1.toInt → x1.toInt ≤ 10 → (σ.1 0 9).toInt ≤ x1.toInt → (x1.toInt ≤ 9 ∨ g ≠ 0) → 0 ≤ x2.toInt → x2.toInt ≤ 11 → x4.toInt ≤ 64 → 0 ≤ x5.toInt → x5.toInt ≤ 999 → q < 1000 → (σ.1 18 (1000 * Int32.toNatClampNeg x1 + q)).toInt = -1 → ((q : Int) - x5.toInt) % 1000 = d → (∀ (τ : S2) (v : Int32), StM g σ τ (Int32.toNatClampNeg x1) x2 → v.toInt = x4.toInt + 1 → Ok Q (k75 τ x1 x2 x3 v)) → Ok Q (fX12_sits_95 k75 n σ x1 x2 x3 x4 x5) := by
  intro d
  induction d with
  | zero =>
    intro n σ x1 x2 x3 x4 x5 q hd hI a0 a1 ht hg b0 b1 c1 d0 d1 hq hm hz hk
    obtain ⟨n, rfl⟩ : ∃ m, n = m + 1 := ⟨n - 1, by omega⟩
    obtain ⟨c0, c1', ci⟩ := seat_ix a0 a1 d0 d1
    have e5 := i32_nat d0
    have e1 := i32_nat a0
    have one : (1 : Int32).toInt = 1 := rfl
    have m1 : ((-1 : Int32)).toInt = -1 := by decide
    have r4 := i32_rng x4
    have hq4 : q = Int32.toNatClampNeg x5 := by omega
    subst hq4
    unfold fX12_sits_95
    refine ok_ck c0 (by omega) (ok_nmI (fun v1 _ f1 => ?_))
    rw [ci, hm] at f1
    refine ok_eq (fun _ => ?_) (fun h => absurd f1 (by omega))
    refine ok_ck c0 (by omega) (ok_nm (fun σ2 h2 => ?_))
    refine ok_ck (by omega) (by omega) (ok_nm (fun v3 _ => ?_))
    refine ok_ck (by omega) (by omega) (ok_nm (fun σ4 h4 => ok_nmI (fun v5 _ f5 => ?_)))
    rw [i32_add (by omega) (by omega), one] at f5
    rw [ci] at h2
    have hI2 : IvM g σ2 := by
      rw [h2]; exact IvM.w18 hI (by omega) (by omega) (show (-1 : Int) ≤ x2.toInt by omega) (show x2.toInt ≤ 11 by omega)
    have hI4 : IvM g σ4 := by rw [h4]; exact IvM.wI hI2 rfl (i32_rng _).1 (i32_rng _).2
    refine hk σ4 v5 ⟨hI4, by rw [h4, h2]; rfl, by rw [h4, h2]; rfl, by rw [h4, h2]; rfl, Int32.toNatClampNeg x5, by omega, hm, ?_, fun i hi => ?_⟩ f5
    · rw [h4, ux_wI_ne (by rintro ⟨r, _⟩; exact absurd r (by decide)), h2, ux_wI_eq]
    · rw [h4, ux_wI_ne (by rintro ⟨r, _⟩; exact absurd r (by decide)), h2, ux_wI_ne (fun r => hi r.2)]
  | succ d ih =>
    intro n σ x1 x2 x3 x4 x5 q hd hI a0 a1 ht hg b0 b1 c1 d0 d1 hq hm hz hk
    obtain ⟨n, rfl⟩ : ∃ m, n = m + 1 := ⟨n - 1, by omega⟩
    obtain ⟨c0, c1', ci⟩ := seat_ix a0 a1 d0 d1
    have e5 := i32_nat d0
    have e1 := i32_nat a0
    have one : (1 : Int32).toInt = 1 := rfl
    have m1 : ((-1 : Int32)).toInt = -1 := by decide
    have z1000 : (1000 : Int32).toInt = 1000 := rfl
    have r4 := i32_rng x4
    have nx := next_ix d0 d1
    unfold fX12_sits_95
    refine ok_ck c0 (by omega) (ok_nmI (fun v1 _ f1 => ?_))
    rw [ci] at f1
    refine ok_eq (fun hv => ?_) (fun h => ?_)
    · refine ok_ck c0 (by omega) (ok_nm (fun σ2 h2 => ?_))
      refine ok_ck (by omega) (by omega) (ok_nm (fun v3 _ => ?_))
      refine ok_ck (by omega) (by omega) (ok_nm (fun σ4 h4 => ok_nmI (fun v5 _ f5 => ?_)))
      rw [i32_add (by omega) (by omega), one] at f5
      rw [ci] at h2
      have hI2 : IvM g σ2 := by
        rw [h2]; exact IvM.w18 hI (by omega) (by omega) (show (-1 : Int) ≤ x2.toInt by omega) (show x2.toInt ≤ 11 by omega)
      have hI4 : IvM g σ4 := by rw [h4]; exact IvM.wI hI2 rfl (i32_rng _).1 (i32_rng _).2
      refine hk σ4 v5 ⟨hI4, by rw [h4, h2]; rfl, by rw [h4, h2]; rfl, by rw [h4, h2]; rfl, Int32.toNatClampNeg x5, by omega, by omega, ?_, fun i hi => ?_⟩ f5
      · rw [h4, ux_wI_ne (by rintro ⟨r, _⟩; exact absurd r (by decide)), h2, ux_wI_eq]
      · rw [h4, ux_wI_ne (by rintro ⟨r, _⟩; exact absurd r (by decide)), h2, ux_wI_ne (fun r => hi r.2)]
    · refine ok_dz (by omega) (ok_nmI (fun v7 _ f7 => ?_))
      rw [nx] at f7
      exact ih n σ x1 x2 x3 x4 v7 q (by omega) hI a0 a1 ht hg b0 b1 c1 (by omega) (by omega) hq hm (by omega) hk
theorem si_75 (t0 n0 : Int) (k37 : S2 → Int32 → Int32 → Option (Unit × S2)) (x1 x2 x3 : Int32) (a0 : 0 ≤ x1.toInt) (a1 : x1.toInt ≤ 10) (ht : t0 ≤ x1.toInt) (hg : x1.toInt ≤ 9 ∨ g ≠ 0) (b0 : 0 ≤ x2.toInt) (b1 : x2.toInt ≤ 11) (c0 : 0 ≤ x3.toInt) (c1 : x3.toInt ≤ 64) (hk : ∀ (τ : S2) (v : Int32), IvM g τ → (τ.1 0 9).toInt = t0 → (τ.1 0 3).toInt = n0 → SiM τ (Int32.toNatClampNeg x1) (x2.toInt + 1) 0 → v.toInt = x2.toInt + 1 → Ok Q (k37 τ x1 v)) : ∀ (n : Nat) (σ : S2) (x4 : Int32), 0 ≤ x4.toInt → x4.toInt ≤ x3.toInt → IvM g σ → (σ.1 0 9).toInt = t0 → (σ.1 0 3).toInt = n0 → SiM σ (Int32.toNatClampNeg x1) x2.toInt x4.toInt → ((σ.1 8 (Int32.toNatClampNeg x1)).toInt.toNat.testBit x2.toInt.toNat = true ∧ 1 ≤ x3.toInt ∨ (σ.1 8 (Int32.toNatClampNeg x1)).toInt.toNat.testBit x2.toInt.toNat = false ∧ x3.toInt = 0) → 65 - x4.toInt ≤ (n : Int) → Ok Q (fX12_sits_75 k37 n σ x1 x2 x3 x4) := by
  intro n
  induction n with
  | zero => intro σ x4 d0 d1 hI h9 h3 hs hb hm; exfalso; omega
  | succ n ih =>
    intro σ x4 d0 d1 hI h9 h3 hs hb hm
    have one : (1 : Int32).toInt = 1 := rfl
    have hFU : FU = 100000 := rfl
    unfold fX12_sits_75
    refine ok_le (fun he => ok_nmI (fun v8 _ f8 => ?_)) (fun hlt => ?_)
    · rw [i32_add (by omega) (by omega), one] at f8
      refine hk σ v8 hI h9 h3 (hs.next b0 (by omega) (fun q => ?_)) f8
      rcases hb with ⟨_, h⟩ | ⟨h, _⟩
      · omega
      · rw [h] at q; exact absurd q (by decide)
    · have hbt : (σ.1 8 (Int32.toNatClampNeg x1)).toInt.toNat.testBit x2.toInt.toNat = true := by
        rcases hb with ⟨h, _⟩ | ⟨_, h⟩
        · exact h
        · exfalso; omega
      refine ok_ck (by omega) (by omega) (ok_nm (fun v9 _ => ?_))
      refine ok_bi (sX12_mixed σ x2 x4 v9 hI (by omega) (by omega) (by omega)) (fun r10 hr => ?_)
      obtain ⟨q, hq, hm1⟩ := cnS_free (f := seM σ (Int32.toNatClampNeg x1)) 1000 (by have := hs.2.1; omega)
      have hm := Int.emod_nonneg ((q : Int) - r10.toInt) (b := 1000) (by decide)
      have hl := Int.emod_lt_of_pos ((q : Int) - r10.toInt) (b := 1000) (by decide)
      refine si_walk (g := g) (Q := Q) (fX12_sits_75 k37 n) (((q : Int) - r10.toInt) % 1000).toNat FU σ x1 x2 x3 x4 r10 q (by omega) hI a0 a1 (by omega) hg b0 b1 (by omega) hr.1 hr.2 hq hm1 (by omega) (fun τ v hst hv => ?_)
      have hst' := hst
      obtain ⟨s1, s0, s8, _⟩ := hst'
      refine ih τ v (by omega) (by omega) s1 (by rw [s0]; exact h9) (by rw [s0]; exact h3) ?_ (by rw [s8]; exact hb) (by omega)
      rw [hv]
      exact hs.st hst b0 rfl hbt d0
theorem si_37 (t0 n0 : Int) (x1 : Int32) (a0 : 0 ≤ x1.toInt) (a1 : x1.toInt ≤ 10) (ht : t0 ≤ x1.toInt) (hg : x1.toInt ≤ 9 ∨ g ≠ 0) : ∀ (n : Nat) (σ : S2) (x2 : Int32), 0 ≤ x2.toInt → x2.toInt ≤ 12 → IvM g σ → (σ.1 0 9).toInt = t0 → (σ.1 0 3).toInt = n0 → SiM σ (Int32.toNatClampNeg x1) x2.toInt 0 → 13 - x2.toInt ≤ (n : Int) → Ok (fun z => IvM g z.2 ∧ (z.2.1 0 9).toInt = t0 ∧ (z.2.1 0 3).toInt = n0 ∧ FaM z.2 (Int32.toNatClampNeg x1)) (fX12_sits_37 n σ x1 x2) := by
  intro n
  induction n with
  | zero => intro σ x2 b0 b1 hI h9 h3 hs hm; exfalso; omega
  | succ n ih =>
    intro σ x2 b0 b1 hI h9 h3 hs hm
    have h12 : 0 ≤ (σ.1 0 3).toInt ∧ (σ.1 0 3).toInt ≤ 12 := hI.1 0 3
    have z0 : (0 : Int32).toInt = 0 := rfl
    have e4 : (4 : Int32).toInt = 4 := rfl
    have e12 : (12 : Int32).toInt = 12 := rfl
    have hFU : FU = 100000 := rfl
    have e1 := i32_nat a0
    have e2 := i32_nat b0
    unfold fX12_sits_37
    refine ok_le (fun he => ok_some ⟨hI, h9, h3, hs.fa (by omega)⟩) (fun hlt => ?_)
    refine ok_bi (sX12_isIn σ x1 x2 hI a0 a1 b0 (by omega)) (fun r12 hr => ?_)
    obtain ⟨_, _, hii⟩ := hr
    have hbi : ∀ b : Bool, ((σ.1 8 (Int32.toNatClampNeg x1)).toInt.toNat.testBit x2.toInt.toNat = b) = ((σ.1 8 (Int32.toNatClampNeg x1)).toInt.toNat.testBit (Int32.toNatClampNeg x2) = b) := by
      intro b; rw [show x2.toInt.toNat = Int32.toNatClampNeg x2 by omega]
    refine ok_eq (fun hr0 => ?_) (fun hr0 => ?_)
    · unfold fX12_sits_71
      refine si_75 t0 n0 (fX12_sits_37 n) x1 x2 0 a0 a1 ht hg b0 (by omega) (by omega) (by omega) (fun τ v q1 q2 q3 q4 q5 => ih τ v (by omega) (by omega) q1 q2 q3 (by rw [q5]; exact q4) (by omega)) FU σ 0 (by omega) (by omega) hI h9 h3 hs (Or.inr ⟨?_, z0⟩) (by omega)
      rw [hbi]
      cases e : (σ.1 8 (Int32.toNatClampNeg x1)).toInt.toNat.testBit (Int32.toNatClampNeg x2)
      · rfl
      · exact absurd (hii.mpr e) (by omega)
    · have em : (12 * x1).toInt = 12 * x1.toInt := i32_mulL e12 (by omega) (by omega)
      have ea : ((12 * x1) + x2).toInt = 12 * x1.toInt + x2.toInt := by rw [i32_add (by omega) (by omega), em]
      have en := i32_nat (i := (12 * x1) + x2) (by omega)
      have ei : Int32.toNatClampNeg ((12 * x1) + x2) = 12 * Int32.toNatClampNeg x1 + Int32.toNatClampNeg x2 := by omega
      refine ok_ck (by omega) (by omega) (ok_nmI (fun v14 _ f14 => ?_))
      have hbt := hii.mp (by omega)
      have hc : 1 ≤ v14.toInt := by rw [f14, ei]; exact hs.1.2 _ (by omega) hbt
      have hc2 : 0 ≤ v14.toInt ∧ v14.toInt ≤ 16 := by rw [f14]; exact hI.1 15 _
      have e4m : (4 * v14).toInt = 4 * v14.toInt := i32_mulL e4 (by omega) (by omega)
      unfold fX12_sits_71
      exact si_75 t0 n0 (fX12_sits_37 n) x1 x2 (4 * v14) a0 a1 ht hg b0 (by omega) (by omega) (by omega) (fun τ v q1 q2 q3 q4 q5 => ih τ v (by omega) (by omega) q1 q2 q3 (by rw [q5]; exact q4) (by omega)) FU σ 0 (by omega) (by omega) hI h9 h3 hs (Or.inl ⟨by rw [hbi]; exact hbt, by omega⟩) (by omega)
theorem si_2 (t0 n0 : Int) (x1 : Int32) (a0 : 0 ≤ x1.toInt) (a1 : x1.toInt ≤ 10) (ht : t0 ≤ x1.toInt) (hg : x1.toInt ≤ 9 ∨ g ≠ 0) : ∀ (n : Nat) (σ : S2) (x2 : Int32), 0 ≤ x2.toInt → x2.toInt ≤ 1000 → IvM g σ → (σ.1 0 9).toInt = t0 → (σ.1 0 3).toInt = n0 → CoM σ (Int32.toNatClampNeg x1) → (∀ p : Nat, (p : Int) < x2.toInt → (σ.1 18 (1000 * Int32.toNatClampNeg x1 + p)).toInt = -1) → 1001 - x2.toInt ≤ (n : Int) → Ok (fun z => IvM g z.2 ∧ (z.2.1 0 9).toInt = t0 ∧ (z.2.1 0 3).toInt = n0 ∧ FaM z.2 (Int32.toNatClampNeg x1)) (fX12_sits_2 n σ x1 x2) := by
  intro n
  induction n with
  | zero => intro σ x2 b0 b1 hI h9 h3 hc hs hm; exfalso; omega
  | succ n ih =>
    intro σ x2 b0 b1 hI h9 h3 hc hs hm
    have z0 : (0 : Int32).toInt = 0 := rfl
    have one : (1 : Int32).toInt = 1 := rfl
    have m1 : ((-1 : Int32)).toInt = -1 := by decide
    have e1000 : (1000 : Int32).toInt = 1000 := rfl
    have hFU : FU = 100000 := rfl
    have e1 := i32_nat a0
    have e2 := i32_nat b0
    unfold fX12_sits_2
    refine ok_le (fun he => ?_) (fun hlt => ?_)
    · refine ok_ck (by omega) (by omega) (ok_nm (fun σ15 h15 => ?_))
      have hI15 : IvM g σ15 := by rw [h15]; exact IvM.wI hI rfl (i32_rng _).1 (i32_rng _).2
      have r18 : σ15.1 18 = σ.1 18 := by rw [h15]; rfl
      refine si_37 t0 n0 x1 a0 a1 ht hg FU σ15 0 (by omega) (by omega) hI15 (by rw [h15]; exact h9) (by rw [h15]; exact h3) ⟨?_, ?_, fun p hp => Or.inl ?_, fun k' hk' _ => ?_, fun q => ?_⟩ (by omega)
      · rw [h15]; exact hc
      · rw [cnS_zero 1000 (fun p hp => by show (σ15.1 18 _).toInt = -1; rw [r18]; exact hs p (by omega))]; omega
      · rw [r18]; exact hs p (by omega)
      · exfalso; omega
      · exfalso; omega
    · obtain ⟨c0, c1', ci⟩ := seat_ix a0 a1 b0 (show x2.toInt ≤ 999 by omega)
      refine ok_ck c0 (by omega) (ok_nm (fun σ16 h16 => ok_nmI (fun v17 _ f17 => ?_)))
      rw [i32_add (by omega) (by omega), one] at f17
      rw [ci] at h16
      have hI16 : IvM g σ16 := by
        rw [h16]; exact IvM.w18 hI (by omega) (by omega) (show (-1 : Int) ≤ (-1 : Int32).toInt by omega) (show (-1 : Int32).toInt ≤ 11 by omega)
      refine ih σ16 v17 (by omega) (by omega) hI16 (by rw [h16]; exact h9) (by rw [h16]; exact h3) (by rw [h16]; exact hc) (fun p hp => ?_) (by omega)
      by_cases e : p = Int32.toNatClampNeg x2
      · subst e; rw [h16, ux_wI_eq]; exact m1
      · rw [h16, ux_wI_ne (by rintro ⟨_, r⟩; omega)]; exact hs p (by omega)
end SI
theorem sX12_sits {g : Nat} (t0 : Int) (n0 : Int) (σ : S2) (a1 : Int32) (hI : IvM g σ) (p9000 : 0 ≤ a1.toInt) (p9001 : a1.toInt ≤ 10) (p9002 : (σ.1 0 9).toInt = t0) (p9003 : (σ.1 0 3).toInt = n0) (p9004 : (σ.1 0 9).toInt ≤ a1.toInt) (p9005 : (a1.toInt ≤ 9 ∨ g ≠ 0)) (p9006 : CoM σ (Int32.toNatClampNeg a1))  : Ok (fun z => IvM g z.2 ∧ (z.2.1 0 9).toInt = t0 ∧ (z.2.1 0 3).toInt = n0 ∧ FaM z.2 (Int32.toNatClampNeg a1)) (fX12_sits σ a1) := by
  have hFU : FU = 100000 := rfl
  have z0 : (0 : Int32).toInt = 0 := rfl
  unfold fX12_sits fX12_sits_0
  exact si_2 t0 n0 a1 (by omega) (by omega) (by omega) (by omega) FU σ 0 (by omega) (by omega) hI (by omega) (by omega) (by assumption) (fun p hp => by exfalso; omega) (by omega)

theorem sX12_table_115 {g : Nat} : ∀ (n : Nat) (σ : S2) (x3 : Int32) (x4 : Int32), IvM g σ → 0 ≤ x3.toInt → x3.toInt ≤ 9 → 0 ≤ x4.toInt → x4.toInt ≤ 80 → 0 ≤ (σ.1 0 9).toInt → (σ.1 0 9).toInt ≤ 9 → x3.toInt = (σ.1 0 9).toInt → 1 ≤ (σ.1 0 3).toInt → CoM σ (Int32.toNatClampNeg x3) → 80 - x4.toInt < (n : Int) → Ok (fun z => IvM g z.2 ∧ (-180) ≤ z.1.toInt ∧ z.1.toInt ≤ 9) (fX12_table_115 n σ x3 x4) := by
  have hFU : ((FU : Nat) : Int) = 100000 := rfl
  intro n
  induction n with
  | zero => intro σ x3 x4 hI p9000 p9001 p9002 p9003 p9004 p9005 p9006 p9007 p9008 hm; exfalso; omega
  | succ n ih =>
    intro σ x3 x4 hI p9000 p9001 p9002 p9003 p9004 p9005 p9006 p9007 p9008 hm
    unfold fX12_table_115
    have : 0 ≤ (σ.1 0 22).toInt ∧ (σ.1 0 22).toInt ≤ 80 := hI.1 0 22
    refine ok_le (fun h1 => ?_) (fun h1 => ?_)
    · have : (0 : Int32).toInt = 0 := by decide
      refine ok_nm (fun σ1 hs2 => ?_)
      have hI3 : IvM g σ1 := by rw [hs2]; exact IvM.wI hI rfl (show 0 ≤ (0 : Int32).toInt by omega) (show (0 : Int32).toInt ≤ 80 by omega)
      have : CoM σ1 (Int32.toNatClampNeg x3) := by rw [hs2]; exact (show CoM σ (Int32.toNatClampNeg x3) by assumption)
      have : (σ1.1 0 9).toInt = (σ.1 0 9).toInt := by rw [hs2]; rfl
      have : (σ1.1 0 3).toInt = (σ.1 0 3).toInt := by rw [hs2]; rfl
      have : (σ1.1 0 22).toInt = (0 : Int32).toInt := by rw [hs2]; rfl
      have : 0 ≤ (σ1.1 0 9).toInt ∧ (σ1.1 0 9).toInt ≤ 10 := hI3.1 0 9
      have : 0 ≤ (σ1.1 0 3).toInt ∧ (σ1.1 0 3).toInt ≤ 12 := hI3.1 0 3
      refine ok_bs (sX12_numbers (σ1.1 0 9).toInt (σ1.1 0 3).toInt σ1 σ1 x3 hI3 (by omega) (by omega) (by omega) (by omega) (by first | assumption | exact KeM.rf _)) (fun r2 σ3 hr4 => ?_)
      obtain ⟨p5, p6, p7, p8⟩ := hr4
      have p5 : IvM g σ3 := p5
      have p6 : (σ3.1 0 9).toInt = (σ1.1 0 9).toInt := p6
      have p7 : (σ3.1 0 3).toInt = (σ1.1 0 3).toInt := p7
      have p8 : KeM σ1 σ3 := p8
      have : CoM σ3 (Int32.toNatClampNeg x3) := KeM.co (show KeM σ1 σ3 by assumption) (by assumption)
      have : 0 ≤ (σ3.1 0 9).toInt ∧ (σ3.1 0 9).toInt ≤ 10 := p5.1 0 9
      have : 0 ≤ (σ3.1 0 3).toInt ∧ (σ3.1 0 3).toInt ≤ 12 := p5.1 0 3
      refine ok_bs (sX12_reads (σ3.1 0 9).toInt (σ3.1 0 3).toInt σ3 σ3 x3 p5 (by omega) (by omega) (by omega) (by omega) (by first | assumption | exact KeM.rf _)) (fun r5 σ6 hr9 => ?_)
      obtain ⟨p10, p11, p12, p13, p14, p15⟩ := hr9
      have p10 : IvM g σ6 := p10
      have p11 : (-1) ≤ r5.toInt := p11
      have p12 : r5.toInt ≤ 80 := p12
      have p13 : (σ6.1 0 9).toInt = (σ3.1 0 9).toInt := p13
      have p14 : (σ6.1 0 3).toInt = (σ3.1 0 3).toInt := p14
      have p15 : KeM σ3 σ6 := p15
      have : CoM σ6 (Int32.toNatClampNeg x3) := KeM.co (show KeM σ3 σ6 by assumption) (by assumption)
      refine ok_lt (fun h16 => ?_) (fun h16 => ?_)
      · have : 0 ≤ (σ6.1 0 9).toInt ∧ (σ6.1 0 9).toInt ≤ 10 := p10.1 0 9
        have : 0 ≤ (σ6.1 0 3).toInt ∧ (σ6.1 0 3).toInt ≤ 12 := p10.1 0 3
        refine ok_bs (sX12_sits (σ6.1 0 9).toInt (σ6.1 0 3).toInt σ6 x3 p10 (by omega) (by omega) (by omega) (by omega) (by omega) (by omega) (by first | assumption | exact KeM.rf _)) (fun r8 σ9 hr17 => ?_)
        obtain ⟨p18, p19, p20, p21⟩ := hr17
        have p18 : IvM g σ9 := p18
        have p19 : (σ9.1 0 9).toInt = (σ6.1 0 9).toInt := p19
        have p20 : (σ9.1 0 3).toInt = (σ6.1 0 3).toInt := p20
        have p21 : FaM σ9 (Int32.toNatClampNeg x3) := p21
        have : 0 ≤ (σ9.1 0 9).toInt ∧ (σ9.1 0 9).toInt ≤ 10 := p18.1 0 9
        have : (1 : Int32).toInt = 1 := by decide
        have : (((σ9.1 0 9) + 1) : Int32).toInt = ((σ9.1 0 9) : Int32).toInt + (1 : Int32).toInt := i32_add (by omega) (by omega)
        refine ok_nm (fun σ11 hs22 => ?_)
        have hI23 : IvM g σ11 := by rw [hs22]; have := i32_nat (i := x3) (by omega); exact IvM.w09 (Int32.toNatClampNeg x3) p18 (by omega) (by assumption) (by omega) (by omega) (show 0 ≤ (((σ9.1 0 9) + 1) : Int32).toInt by omega) (show (((σ9.1 0 9) + 1) : Int32).toInt ≤ 10 by omega)
        have : (σ11.1 0 9).toInt = (((σ9.1 0 9) + 1) : Int32).toInt := by rw [hs22]; rfl
        have : (σ11.1 0 3).toInt = (σ9.1 0 3).toInt := by rw [hs22]; rfl
        exact ok_some ⟨hI23, by show (-180) ≤ x3.toInt; omega, by show x3.toInt ≤ 9; omega⟩
      · exact ok_some ⟨p10, (sub100 (by omega) (by omega)).1, (sub100 (by omega) (by omega)).2⟩
    · refine ok_ck (by omega) (by omega) ?_
      have : 0 ≤ (σ.1 19 (Int32.toNatClampNeg x4)).toInt ∧ (σ.1 19 (Int32.toNatClampNeg x4)).toInt ≤ 255 := hI.1 19 (Int32.toNatClampNeg x4)
      refine ok_nmI (fun v12 hv12 he24 => ?_)
      have : (80 : Int32).toInt = 80 := by decide
      have : ((80 * x3) : Int32).toInt = 80 * (x3 : Int32).toInt := i32_mulL (by omega) (by omega) (by omega)
      have : (((80 * x3) + x4) : Int32).toInt = ((80 * x3) : Int32).toInt + (x4 : Int32).toInt := i32_add (by omega) (by omega)
      refine ok_ck (by omega) (by omega) ?_
      refine ok_nm (fun σ13 hs25 => ?_)
      have hI26 : IvM g σ13 := by rw [hs25]; exact IvM.wI hI rfl (show 0 ≤ (v12 : Int32).toInt by omega) (show (v12 : Int32).toInt ≤ 255 by omega)
      have : CoM σ13 (Int32.toNatClampNeg x3) := by rw [hs25]; exact (show CoM σ (Int32.toNatClampNeg x3) by assumption)
      have : (σ13.1 0 9).toInt = (σ.1 0 9).toInt := by rw [hs25]; rfl
      have : (σ13.1 0 3).toInt = (σ.1 0 3).toInt := by rw [hs25]; rfl
      have : (σ13.1 0 22).toInt = (σ.1 0 22).toInt := by rw [hs25]; rfl
      have : (1 : Int32).toInt = 1 := by decide
      have : ((x4 + 1) : Int32).toInt = (x4 : Int32).toInt + (1 : Int32).toInt := i32_add (by omega) (by omega)
      refine ok_nmI (fun v14 hv14 he27 => ?_)
      have : 0 ≤ (σ13.1 0 9).toInt ∧ (σ13.1 0 9).toInt ≤ 10 := hI26.1 0 9
      exact ih σ13 x3 v14 hI26 (by omega) (by omega) (by omega) (by omega) (by omega) (by omega) (by omega) (by omega) (by first | assumption | exact KeM.rf _) (by omega)

theorem sX12_table_50 {g : Nat} : ∀ (n : Nat) (σ : S2) (x3 : Int32) (x4 : Int32), IvM g σ → 0 ≤ x3.toInt → x3.toInt ≤ 9 → 0 ≤ x4.toInt → x4.toInt ≤ 12 → 0 ≤ (σ.1 0 9).toInt → (σ.1 0 9).toInt ≤ 9 → x3.toInt = (σ.1 0 9).toInt → 1 ≤ (σ.1 0 3).toInt → SxM σ x3 → PcM σ x3 x4 → 12 - x4.toInt < (n : Int) → Ok (fun z => IvM g z.2 ∧ (-180) ≤ z.1.toInt ∧ z.1.toInt ≤ 9) (fX12_table_50 n σ x3 x4) := by
  have hFU : ((FU : Nat) : Int) = 100000 := rfl
  intro n
  induction n with
  | zero => intro σ x3 x4 hI p9000 p9001 p9002 p9003 p9004 p9005 p9006 p9007 p9008 p9009 hm; exfalso; omega
  | succ n ih =>
    intro σ x3 x4 hI p9000 p9001 p9002 p9003 p9004 p9005 p9006 p9007 p9008 p9009 hm
    unfold fX12_table_50
    have : 0 ≤ (σ.1 0 3).toInt ∧ (σ.1 0 3).toInt ≤ 12 := hI.1 0 3
    refine ok_le (fun h1 => ?_) (fun h1 => ?_)
    · refine ok_ck (by omega) (by omega) ?_
      have : 0 ≤ (σ.1 0 22).toInt ∧ (σ.1 0 22).toInt ≤ 80 := hI.1 0 22
      refine ok_nm (fun σ15 hs2 => ?_)
      have hI3 : IvM g σ15 := by rw [hs2]; exact IvM.wI hI rfl (show 0 ≤ ((σ.1 0 22) : Int32).toInt by omega) (show ((σ.1 0 22) : Int32).toInt ≤ 80 by omega)
      have : CoM σ15 (Int32.toNatClampNeg x3) := by rw [hs2]; exact CoM.mk' (x := x4) (show SxM σ x3 by assumption) (show PcM σ x3 x4 by assumption) (show (σ.1 0 3).toInt ≤ x4.toInt by omega)
      have : (σ15.1 0 9).toInt = (σ.1 0 9).toInt := by rw [hs2]; rfl
      have : (σ15.1 0 3).toInt = (σ.1 0 3).toInt := by rw [hs2]; rfl
      have : (0 : Int32).toInt = 0 := by decide
      have : 0 ≤ (σ15.1 0 9).toInt ∧ (σ15.1 0 9).toInt ≤ 10 := hI3.1 0 9
      exact sX12_table_115 FU σ15 x3 0 hI3 (by omega) (by omega) (by omega) (by omega) (by omega) (by omega) (by omega) (by omega) (by first | assumption | exact KeM.rf _) (by omega)
    · refine ok_bi (sX12_countsNow σ x4 hI (by omega) (by omega) (by omega)) (fun r16 hr4 => ?_)
      obtain ⟨p5, p6, p7⟩ := hr4
      have p5 : 0 ≤ r16.toInt := p5
      have p6 : r16.toInt ≤ 16 := p6
      have p7 : 1 ≤ r16.toInt := p7
      have : (12 : Int32).toInt = 12 := by decide
      have : ((12 * x3) : Int32).toInt = 12 * (x3 : Int32).toInt := i32_mulL (by omega) (by omega) (by omega)
      have : (((12 * x3) + x4) : Int32).toInt = ((12 * x3) : Int32).toInt + (x4 : Int32).toInt := i32_add (by omega) (by omega)
      refine ok_ck (by omega) (by omega) ?_
      refine ok_nm (fun σ18 hs8 => ?_)
      have : 0 ≤ (σ.1 0 9).toInt ∧ (σ.1 0 9).toInt ≤ 10 := hI.1 0 9
      have hI9 : IvM g σ18 := by rw [hs8]; have := i32_nat (i := ((12 * x3) + x4)) (by omega); exact IvM.w15 hI (by omega) (by omega) (show 0 ≤ (r16 : Int32).toInt by omega) (show (r16 : Int32).toInt ≤ 16 by omega)
      have : SxM σ18 x3 := by rw [hs8]; exact (show SxM σ x3 by assumption)
      have : PcM σ18 x3 (x4 + 1) := by rw [hs8]; have := i32_nat (i := x3) (by omega); have := i32_nat (i := x4) (by omega); have := i32_nat (i := ((12 * x3) + x4)) (by omega); have : (1 : Int32).toInt = 1 := rfl; exact PcM.step (by assumption) (by omega) (by omega) (by omega) (i32_add (by omega) (by omega))
      have : (σ18.1 0 9).toInt = (σ.1 0 9).toInt := by rw [hs8]; rfl
      have : (σ18.1 0 3).toInt = (σ.1 0 3).toInt := by rw [hs8]; rfl
      refine ok_ck (by omega) (by omega) ?_
      have : 0 ≤ (σ18.1 3 (Int32.toNatClampNeg x4)).toInt ∧ (σ18.1 3 (Int32.toNatClampNeg x4)).toInt ≤ 5 := hI9.1 3 (Int32.toNatClampNeg x4)
      refine ok_nmI (fun v19 hv19 he10 => ?_)
      refine ok_ck (by omega) (by omega) ?_
      refine ok_nm (fun σ20 hs11 => ?_)
      have hI12 : IvM g σ20 := by rw [hs11]; exact IvM.wI hI9 rfl (show 0 ≤ (v19 : Int32).toInt by omega) (show (v19 : Int32).toInt ≤ 5 by omega)
      have : SxM σ20 x3 := by rw [hs11]; exact (show SxM σ18 x3 by assumption)
      have : PcM σ20 x3 (x4 + 1) := by rw [hs11]; exact (show PcM σ18 x3 (x4 + 1) by assumption)
      have : (σ20.1 0 9).toInt = (σ18.1 0 9).toInt := by rw [hs11]; rfl
      have : (σ20.1 0 3).toInt = (σ18.1 0 3).toInt := by rw [hs11]; rfl
      have : (1 : Int32).toInt = 1 := by decide
      have : ((x4 + 1) : Int32).toInt = (x4 : Int32).toInt + (1 : Int32).toInt := i32_add (by omega) (by omega)
      refine ok_nmI (fun v21 hv21 he13 => ?_)
      have : PcM σ20 x3 v21 := by rw [hv21]; assumption
      have : 0 ≤ (σ20.1 0 9).toInt ∧ (σ20.1 0 9).toInt ≤ 10 := hI12.1 0 9
      exact ih σ20 x3 v21 hI12 (by omega) (by omega) (by omega) (by omega) (by omega) (by omega) (by omega) (by omega) (by first | assumption | exact KeM.rf _) (by first | assumption | exact KeM.rf _) (by omega)

theorem sX12_table_0 {g : Nat} (σ : S2) (x1 : Int32) (x2 : Int32) (hI : IvM g σ)   : Ok (fun z => IvM g z.2 ∧ (-180) ≤ z.1.toInt ∧ z.1.toInt ≤ 9) (fX12_table_0 σ x1 x2) := by
  have hFU : ((FU : Nat) : Int) = 100000 := rfl
  unfold fX12_table_0
  have := i32_rng x1
  have : (0 : Int32).toInt = 0 := by decide
  refine ok_le (fun h1 => ?_) (fun h1 => ?_)
  · have : ((-1) : Int32).toInt = (-1) := by decide
    exact ok_some ⟨hI, by show (-180) ≤ ((-1) : Int32).toInt; omega, by show ((-1) : Int32).toInt ≤ 9; omega⟩
  · have : (1 : Int32).toInt = 1 := by decide
    have : 0 ≤ (σ.1 0 3).toInt ∧ (σ.1 0 3).toInt ≤ 12 := hI.1 0 3
    have : (31 : Int32).toInt = 31 := by decide
    have := i32_andR (a := (σ.1 0 3)) (m := 31) (by omega)
    have := i32_andL (a := (σ.1 0 3)) (m := 31) (by omega)
    have : 1 ≤ ((1 <<< ((σ.1 0 3) &&& 31)) : Int32).toInt ∧ ((1 <<< ((σ.1 0 3) &&& 31)) : Int32).toInt ≤ 4096 := i32_shlB 12 (by omega) (by omega) (by decide)
    refine ok_lt (fun h2 => ?_) (fun h2 => ?_)
    · have : 0 ≤ (σ.1 0 9).toInt ∧ (σ.1 0 9).toInt ≤ 10 := hI.1 0 9
      have : (10 : Int32).toInt = 10 := by decide
      refine ok_eq (fun h3 => ?_) (fun h3 => ?_)
      · have : ((-3) : Int32).toInt = (-3) := by decide
        exact ok_some ⟨hI, by show (-180) ≤ ((-3) : Int32).toInt; omega, by show ((-3) : Int32).toInt ≤ 9; omega⟩
      · refine ok_nmI (fun v22 hv22 he4 => ?_)
        refine ok_ck (by omega) (by omega) ?_
        refine ok_nm (fun σ23 hs5 => ?_)
        have hI6 : IvM g σ23 := by rw [hs5]; have := i32_nat (i := v22) (by omega); exact IvM.w8 hI (by omega) (by omega) (show 0 ≤ (x1 : Int32).toInt by omega) (show (x1 : Int32).toInt ≤ 4095 by omega)
        have e9 := i32_shl1 (x := (σ.1 0 3)) (by omega) (by omega)
        have hx9 : x1.toInt < 2 ^ (σ.1 0 3).toInt.toNat := by rw [← e9]; assumption
        have : 1 ≤ (σ.1 0 3).toInt := keep_pos (x := x1.toInt) (by omega) hx9
        have : SxM σ23 v22 := by rw [hs5]; unfold SxM; rw [ux_wI_eq]; exact ⟨by omega, hx9⟩
        have : (σ23.1 0 9).toInt = (σ.1 0 9).toInt := by rw [hs5]; rfl
        have : (σ23.1 0 3).toInt = (σ.1 0 3).toInt := by rw [hs5]; rfl
        refine ok_ck (by omega) (by omega) ?_
        have := i32_rng x2
        refine ok_nm (fun σ24 hs7 => ?_)
        have hI8 : IvM g σ24 := by rw [hs7]; exact IvM.wI hI6 rfl (i32_rng _).1 (i32_rng _).2
        have : SxM σ24 v22 := by rw [hs7]; exact (show SxM σ23 v22 by assumption)
        have : PcM σ24 v22 0 := fun k hk => by have : (0 : Int32).toInt = 0 := rfl; exfalso; omega
        have : (σ24.1 0 9).toInt = (σ23.1 0 9).toInt := by rw [hs7]; rfl
        have : (σ24.1 0 3).toInt = (σ23.1 0 3).toInt := by rw [hs7]; rfl
        have : 0 ≤ (σ24.1 0 9).toInt ∧ (σ24.1 0 9).toInt ≤ 10 := hI8.1 0 9
        exact sX12_table_50 FU σ24 v22 0 hI8 (by omega) (by omega) (by omega) (by omega) (by omega) (by omega) (by omega) (by omega) (by first | assumption | exact KeM.rf _) (by first | assumption | exact KeM.rf _) (by omega)
    · have : ((-1) : Int32).toInt = (-1) := by decide
      exact ok_some ⟨hI, by show (-180) ≤ ((-1) : Int32).toInt; omega, by show ((-1) : Int32).toInt ≤ 9; omega⟩

theorem sX12_table {g : Nat} (σ : S2) (a1 : Int32) (a2 : Int32) (hI : IvM g σ)   : Ok (fun z => IvM g z.2 ∧ (-180) ≤ z.1.toInt ∧ z.1.toInt ≤ 9) (fX12_table σ a1 a2) := by
  unfold fX12_table
  exact sX12_table_0 σ a1 a2 hI

noncomputable def pcM (x : Nat) : Int := (if x.testBit 0 then 1 else 0) + (if x.testBit 1 then 1 else 0) + (if x.testBit 2 then 1 else 0) + (if x.testBit 3 then 1 else 0) + (if x.testBit 4 then 1 else 0) + (if x.testBit 5 then 1 else 0) + (if x.testBit 6 then 1 else 0) + (if x.testBit 7 then 1 else 0) + (if x.testBit 8 then 1 else 0) + (if x.testBit 9 then 1 else 0) + (if x.testBit 10 then 1 else 0) + (if x.testBit 11 then 1 else 0)
theorem pcM_lt {x k : Nat} (hk : k < 12) (h : x.testBit k = false) : 0 ≤ pcM x ∧ pcM x ≤ 11 := by
  have b : ∀ j, (0 : Int) ≤ (if x.testBit j then 1 else 0) ∧ (if x.testBit j then (1 : Int) else 0) ≤ 1 := fun j => by split <;> omega
  have b0 := b 0; have b1 := b 1; have b2 := b 2; have b3 := b 3; have b4 := b 4; have b5 := b 5; have b6 := b 6; have b7 := b 7; have b8 := b 8; have b9 := b 9; have b10 := b 10; have b11 := b 11
  have z : (if x.testBit k then (1 : Int) else 0) = 0 := by rw [h]; rfl
  have hk' : k = 0 ∨ k = 1 ∨ k = 2 ∨ k = 3 ∨ k = 4 ∨ k = 5 ∨ k = 6 ∨ k = 7 ∨ k = 8 ∨ k = 9 ∨ k = 10 ∨ k = 11 := by omega
  unfold pcM
  rcases hk' with rfl | rfl | rfl | rfl | rfl | rfl | rfl | rfl | rfl | rfl | rfl | rfl <;> omega
theorem pcM_or {x y k : Nat} (hk : k < 12) (h : x.testBit k = false) (hy : ∀ j, y.testBit j = (x.testBit j || decide (j = k))) : pcM y = pcM x + 1 := by
  unfold pcM
  rw [hy, hy, hy, hy, hy, hy, hy, hy, hy, hy, hy, hy]
  have hk' : k = 0 ∨ k = 1 ∨ k = 2 ∨ k = 3 ∨ k = 4 ∨ k = 5 ∨ k = 6 ∨ k = 7 ∨ k = 8 ∨ k = 9 ∨ k = 10 ∨ k = 11 := by omega
  rcases hk' with rfl | rfl | rfl | rfl | rfl | rfl | rfl | rfl | rfl | rfl | rfl | rfl <;> (rw [h]; simp <;> omega)
/-- seen is within the set, and as many are picked -/
noncomputable def SwM (σ : S2) (t x : Int32) : Prop := 0 ≤ x.toInt ∧ (∀ k : Nat, x.toInt.toNat.testBit k = true → (σ.1 8 (Int32.toNatClampNeg t)).toInt.toNat.testBit k = true) ∧ (σ.1 0 53).toInt = pcM x.toInt.toNat
/-- a keeper of the set that is not seen yet -/
noncomputable def NsM (σ : S2) (t x : Int32) (k : Nat) : Prop := k < 12 ∧ (σ.1 8 (Int32.toNatClampNeg t)).toInt.toNat.testBit k = true ∧ x.toInt.toNat.testBit k = false
noncomputable def PkM (σ z : S2) (t x : Int32) : Prop := ∃ k : Nat, NsM σ t x k ∧ (z.1 35 (Int32.toNatClampNeg (σ.1 0 53))).toInt = (k : Int) ∧ (z.1 0 53).toInt = (σ.1 0 53).toInt + 1 ∧ z.1 8 = σ.1 8
theorem SwM.ns {σ : S2} {t x : Int32} (h : SwM σ t x) (hf : FaM σ (Int32.toNatClampNeg t)) (hk : (σ.1 0 3).toInt ≤ 12) (hne : x.toInt ≠ (σ.1 8 (Int32.toNatClampNeg t)).toInt) : ∃ k, NsM σ t x k := by
  apply Classical.byContradiction
  intro hc
  apply hne
  have l := toNat_lt2 hf.1.1.1 hf.1.1.2
  have : x.toInt.toNat = (σ.1 8 (Int32.toNatClampNeg t)).toInt.toNat := by
    apply Nat.eq_of_testBit_eq
    intro j
    cases e : (σ.1 8 (Int32.toNatClampNeg t)).toInt.toNat.testBit j
    · cases e' : x.toInt.toNat.testBit j
      · rfl
      · rw [h.2.1 j e'] at e; exact absurd e (by decide)
    · cases e' : x.toInt.toNat.testBit j
      · exact absurd ⟨j, by have := testBit_lt l e; omega, e, e'⟩ hc
      · rfl
  have h1 := h.1
  have h2 := hf.1.1.1
  omega
theorem pk_fin {g : Nat} {σ : S2} {t x v : Int32} {k : Nat} (hI : IvM g σ) (hs : SwM σ t x) (hn : NsM σ t x k) (hv : v.toInt = (k : Int)) : Ok (fun z => IvM g z.2 ∧ (z.2.1 0 9).toInt = (σ.1 0 9).toInt ∧ PkM σ z.2 t x) (ck 12 (σ.1 0 53) (nm (ux_wI σ 35 (Int32.toNatClampNeg (σ.1 0 53)) v) (fun σ6 => nm (ux_wI σ6 0 53 ((σ6.1 0 53) + 1)) (fun σ7 => some ((), σ7))))) := by
  have hp := pcM_lt hn.1 hn.2.2
  have hm := hs.2.2
  have k12 := hn.1
  have e1 : (1 : Int32).toInt = 1 := rfl
  refine ok_ck (by omega) (by omega) ?_
  refine ok_nm (fun σ6 h6 => ok_nm (fun σ7 h7 => ok_some ?_))
  have hI6 : IvM g σ6 := by rw [h6]; exact IvM.wI hI rfl (show 0 ≤ v.toInt by omega) (show v.toInt ≤ 11 by omega)
  have e6 : (σ6.1 0 53) = (σ.1 0 53) := by rw [h6]; rfl
  have ea : ((σ6.1 0 53) + 1).toInt = (σ.1 0 53).toInt + 1 := by rw [e6, i32_add (by omega) (by omega), e1]
  have hI7 : IvM g σ7 := by rw [h7]; exact IvM.wI hI6 rfl (show 0 ≤ ((σ6.1 0 53) + 1).toInt by omega) (show ((σ6.1 0 53) + 1).toInt ≤ 12 by omega)
  refine ⟨hI7, ?_, k, hn, ?_, ?_, ?_⟩
  · show (σ7.1 0 9).toInt = _
    rw [h7, h6]; rfl
  · show (σ7.1 35 _).toInt = _
    have : σ7.1 35 (Int32.toNatClampNeg (σ.1 0 53)) = v := by
      rw [h7, ux_wI_ne (by rintro ⟨q, _⟩; exact absurd q (by decide)), h6, ux_wI_eq]
    rw [this]; exact hv
  · show (σ7.1 0 53).toInt = _
    rw [h7, ux_wI_eq]; exact ea
  · show σ7.1 8 = _
    rw [h7, h6]; rfl
theorem pn_walk {g : Nat} : ∀ (d n : Nat) (σ : S2) (x1 x3 x4 : Int32) (q : Nat), d < n → IvM g σ → 0 ≤ x1.toInt → x1.toInt ≤ 10 → x3.toInt ≤ 4095 → 0 ≤ x4.toInt → x4.toInt ≤ 999 → SwM σ x1 x3 → FaM σ (Int32.toNatClampNeg x1) → q < 1000 → (∃ k, NsM σ x1 x3 k ∧ (σ.1 18 (1000 * Int32.toNatClampNeg x1 + q)).toInt = (k : Int)) → ((q : Int) - x4.toInt) % 1000 = d → (σ.1 0 3).toInt ≤ 12 → Ok (fun z => IvM g z.2 ∧ (z.2.1 0 9).toInt = (σ.1 0 9).toInt ∧ PkM σ z.2 x1 x3) (fX12_pickNext_3 n σ x1 x3 x4) := by
  intro d
  induction d with
  | zero =>
    intro n σ x1 x3 x4 q hd hI a0 a1 a3 b0 b1 hs hf hq ht hm h12
    obtain ⟨n, rfl⟩ : ∃ m, n = m + 1 := ⟨n - 1, by omega⟩
    obtain ⟨c0, c1, ci⟩ := seat_ix a0 a1 b0 b1
    have e4 := i32_nat b0
    have hq4 : q = Int32.toNatClampNeg x4 := by omega
    subst hq4
    obtain ⟨k, hk, hv⟩ := ht
    have k12 := hk.1
    have m1 : ((-1 : Int32)).toInt = -1 := by decide
    unfold fX12_pickNext_3
    refine ok_ck c0 (by omega) (ok_nmI (fun v3 h3 e3 => ?_))
    rw [ci, hv] at e3
    refine ok_eq (fun h => absurd h (by omega)) (fun _ => ?_)
    refine ok_ck c0 (by omega) (ok_nmI (fun v4 h4 e4' => ?_))
    rw [ci, hv] at e4'
    have hb := bit_sar (a := x3) (x := v4) hs.1 a3 (by omega) (by omega)
    have en := i32_nat (i := v4) (by omega)
    have : Int32.toNatClampNeg v4 = k := by omega
    rw [this, hk.2.2] at hb
    refine ok_eq (fun h => absurd h (by rw [hb]; decide)) (fun _ => ?_)
    refine ok_ck c0 (by omega) (ok_nmI (fun v5 h5 e5 => ?_))
    rw [ci, hv] at e5
    exact pk_fin hI hs hk e5
  | succ d ih =>
    intro n σ x1 x3 x4 q hd hI a0 a1 a3 b0 b1 hs hf hq ht hm h12
    obtain ⟨n, rfl⟩ : ∃ m, n = m + 1 := ⟨n - 1, by omega⟩
    obtain ⟨c0, c1, ci⟩ := seat_ix a0 a1 b0 b1
    have e4 := i32_nat b0
    have m1 : ((-1 : Int32)).toInt = -1 := by decide
    have nx := next_ix b0 b1
    have z1000 : (1000 : Int32).toInt = 1000 := rfl
    have step : Ok (fun z => IvM g z.2 ∧ (z.2.1 0 9).toInt = (σ.1 0 9).toInt ∧ PkM σ z.2 x1 x3) (fX12_pickNext_41 (fX12_pickNext_3 n) σ x1 x3 x4) := by
      unfold fX12_pickNext_41
      refine ok_dz (by omega) (ok_nmI (fun v2 h2 e2 => ?_))
      rw [nx] at e2
      exact ih n σ x1 x3 v2 q (by omega) hI a0 a1 a3 (by omega) (by omega) hs hf hq ht (by omega) h12
    unfold fX12_pickNext_3
    refine ok_ck c0 (by omega) (ok_nmI (fun v3 h3 e3 => ?_))
    refine ok_eq (fun _ => step) (fun hne => ?_)
    refine ok_ck c0 (by omega) (ok_nmI (fun v4 h4 e4' => ?_))
    rw [ci] at e3 e4'
    have hset0 : (σ.1 8 (Int32.toNatClampNeg x1)).toInt ≠ 0 := by
      obtain ⟨k, hk, _⟩ := ht
      intro e
      have := hk.2.1
      rw [e] at this
      exact absurd this (by rw [show (0 : Int).toNat = 0 from rfl, Nat.zero_testBit]; decide)
    have hseat := (hf.2.2.resolve_left hset0) (Int32.toNatClampNeg x4) (by omega)
    have hset : 0 ≤ v4.toInt ∧ (σ.1 8 (Int32.toNatClampNeg x1)).toInt.toNat.testBit v4.toInt.toNat = true := by
      rw [e4']
      rcases hseat with q1 | q2
      · exfalso; omega
      · exact q2
    have l12 : v4.toInt.toNat < 12 := by
      have := testBit_lt (toNat_lt2 hf.1.1.1 hf.1.1.2) hset.2
      omega
    have hb := bit_sar (a := x3) (x := v4) hs.1 a3 (by omega) (by omega)
    have en := i32_nat (i := v4) (by omega)
    have e5' : Int32.toNatClampNeg v4 = v4.toInt.toNat := by omega
    refine ok_eq (fun _ => step) (fun hne2 => ?_)
    have hx : x3.toInt.toNat.testBit v4.toInt.toNat = false := by
      rw [e5'] at hb
      cases e : x3.toInt.toNat.testBit v4.toInt.toNat
      · rfl
      · rw [e] at hb; exact absurd hb hne2
    refine ok_ck c0 (by omega) (ok_nmI (fun v5 h5 e5 => ?_))
    rw [ci] at e5
    exact pk_fin (k := v4.toInt.toNat) hI hs ⟨l12, hset.2, hx⟩ (by omega)
theorem sX12_pickNext {g : Nat} (t0 : Int) (σ : S2) (a1 : Int32) (a2 : Int32) (a3 : Int32) (hI : IvM g σ) (p9000 : 0 ≤ a1.toInt) (p9001 : a1.toInt ≤ 10) (p9002 : 0 ≤ a2.toInt) (p9003 : a2.toInt ≤ 999) (p9004 : 0 ≤ a3.toInt) (p9005 : a3.toInt ≤ 4095) (p9006 : (σ.1 0 9).toInt = t0) (p9007 : SwM σ a1 a3) (p9008 : a3.toInt ≠ (σ.1 8 (Int32.toNatClampNeg a1)).toInt) (p9009 : (a1.toInt < (σ.1 0 9).toInt ∨ (a1.toInt = 10 ∧ g = 0)))  : Ok (fun z => IvM g z.2 ∧ (z.2.1 0 9).toInt = t0 ∧ PkM σ z.2 a1 a3) (fX12_pickNext σ a1 a2 a3) := by
  have e1 := i32_nat (i := a1) (by omega)
  have hf : FaM σ (Int32.toNatClampNeg a1) := hI.2.2.1 _ (by omega)
  have h3 : 0 ≤ (σ.1 0 3).toInt ∧ (σ.1 0 3).toInt ≤ 12 := hI.1 0 3
  have hs : SwM σ a1 a3 := by assumption
  obtain ⟨k, hk⟩ := hs.ns hf h3.2 (by assumption)
  obtain ⟨q, hq, e⟩ := hf.2.1 k hk.1 hk.2.1
  have hm := Int.emod_nonneg ((q : Int) - a2.toInt) (b := 1000) (by decide)
  have hl := Int.emod_lt_of_pos ((q : Int) - a2.toInt) (b := 1000) (by decide)
  have hFU : FU = 100000 := rfl
  unfold fX12_pickNext fX12_pickNext_0
  exact ok_mono (pn_walk (((q : Int) - a2.toInt) % 1000).toNat FU σ a1 a3 a2 q (by omega) hI (by omega) (by omega) (by omega) (by omega) (by omega) hs hf hq ⟨k, hk, e⟩ (by omega) h3.2) (fun z hz => ⟨hz.1, by have := hz.2.1; omega, hz.2.2⟩)

