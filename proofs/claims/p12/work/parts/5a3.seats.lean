/-! all seats: seatAll against sits -/
section SEATS3
variable {τ b : Nat} {t z : Int32}
theorem c_fill1000 {c : Nat} {σ0 : S2} : ∀ (N : Nat) (σ : S2) (i : Int32), 0 ≤ i.toInt → i.toInt ≤ 1000 → (∀ p : Nat, (p : Int) < i.toInt → σ.1 c p = -1) → (∀ k j : Nat, k ≠ c → σ.1 k j = σ0.1 k j) → Pt (fun z : Unit × S2 => (∀ p : Nat, p < 1000 → z.2.1 c p = -1) ∧ ∀ k j : Nat, k ≠ c → z.2.1 k j = σ0.1 k j) (fJ7_fill_031fb_5 τ c 1000 N σ (-1) i (Int32.ofNat 1000)) := by
  have z1 := i_1
  have e1000 : (Int32.ofNat 1000).toInt = 1000 := rfl
  intro N
  induction N with
  | zero => intro σ i _ _ _ _; exact pt_none
  | succ N ih =>
    intro σ i i0 i1 hd hf
    unfold fJ7_fill_031fb_5
    refine pt_le (fun h => pt_some ⟨fun p hp => hd p (by omega), hf⟩) (fun h => pt_ck (fun _ _ _ => pt_nm (fun s1 es => pt_nm (fun v2 e2 => ?_))))
    have n := i32_nat i0
    have e : (i + 1).toInt = i.toInt + 1 := by rw [i32_add (by omega) (by omega)]; omega
    rw [show vp_nar .byte (-1) = (-1 : Int32) from by decide] at es
    rw [e2]
    refine ih s1 (i + 1) (by omega) (by omega) (fun p hp => ?_) (fun k j hk => by rw [es, wI_k _ _ _ _ hk]; exact hf k j hk)
    by_cases q : p = i.toNatClampNeg
    · rw [es, q, wI_eq]
    · rw [es, wI_i _ _ _ q]; exact hd p (by omega)
theorem m_sits2 {Q : Unit × S2 → Prop} {ρ0 : S2} (t0 : 0 ≤ t.toInt) (t1 : t.toInt ≤ 10) (kx : ∀ ρ2 : S2, (∀ p : Nat, p < 1000 → ρ2.1 18 (1000 * t.toNatClampNeg + p) = -1) → ρ2.1 17 t.toNatClampNeg = 0 → (∀ k i : Nat, ¬ (k = 18 ∧ 1000 * t.toNatClampNeg ≤ i ∧ i < 1000 * t.toNatClampNeg + 1000) → ¬ (k = 17 ∧ i = t.toNatClampNeg) → ρ2.1 k i = ρ0.1 k i) → Pt Q (fX12_sits_37 FU ρ2 t 0)) : ∀ (N : Nat) (ρ : S2) (x : Int32), 0 ≤ x.toInt → x.toInt ≤ 1000 → (∀ p : Nat, (p : Int) < x.toInt → ρ.1 18 (1000 * t.toNatClampNeg + p) = -1) → (∀ k i : Nat, ¬ (k = 18 ∧ 1000 * t.toNatClampNeg ≤ i ∧ i < 1000 * t.toNatClampNeg + 1000) → ρ.1 k i = ρ0.1 k i) → Pt Q (fX12_sits_2 N ρ t x) := by
  have z1 := i_1
  have z1000 : (1000 : Int32).toInt = 1000 := rfl
  intro N
  induction N with
  | zero => intro ρ x _ _ _ _; exact pt_none
  | succ N ih =>
    intro ρ x x0 x1 hd hf
    unfold fX12_sits_2
    refine pt_le (fun h => pt_ck (fun _ _ _ => pt_nm (fun s1 es => ?_))) (fun h => pt_ck (fun _ _ _ => pt_nm (fun s1 es => pt_nm (fun v e => ?_))))
    · refine kx s1 (fun p hp => ?_) ?_ (fun k i h1 h2 => ?_)
      · rw [es, wI_k _ _ _ _ (by decide)]; exact hd p (by omega)
      · rw [es, wI_eq]
      · rw [es]
        by_cases q : k = 17
        · subst q
          rw [wI_i _ _ _ (fun w => h2 ⟨rfl, w⟩)]; exact hf _ i h1
        · rw [wI_k _ _ _ _ q]; exact hf k i h1
    · have ix := seat_ix t0 t1 x0 (x4 := x) (by omega)
      have n := i32_nat x0
      have e1 : (x + 1).toInt = x.toInt + 1 := by rw [i32_add (by omega) (by omega)]; omega
      rw [ix.2.2] at es
      rw [e]
      refine ih s1 (x + 1) (by omega) (by omega) (fun p hp => ?_) (fun k i h1 => ?_)
      · by_cases q : p = x.toNatClampNeg
        · rw [es, q, wI_eq]
        · rw [es, wI_i _ _ _ (by omega)]; exact hd p (by omega)
      · rw [es]
        by_cases q : k = 18
        · subst q
          rw [wI_i _ _ _ (fun w => h1 ⟨rfl, by omega, by omega⟩)]; exact hf _ i h1
        · rw [wI_k _ _ _ _ q]; exact hf k i h1
/-- ahead of each place stands the first taken place from there on -/
noncomputable def AH (b : Nat) (σ : S2) : Prop := ∀ p : Nat, p < 1000 → (∃ q : Nat, q < 1000 ∧ σ.1 (182 + 6 * b + 4) q ≠ -1) → ∃ d : Int, d < 1000 ∧ FT (σ.1 (182 + 6 * b + 4)) p d (σ.1 (182 + 6 * b + 5) p).toInt
theorem seats_eq {σ ρ σ' ρ' σi : S2} {g : Nat} {u u2 : Unit} (hi : IvC g τ σi) (t0 : 0 ≤ t.toInt) (t1 : t.toInt ≤ 10) (hz : ρ.1 9 t.toNatClampNeg = z) (n0 : 0 ≤ (ρ.1 0 3).toInt) (n1 : (ρ.1 0 3).toInt ≤ 12) (s0 : 0 ≤ (ρ.1 8 t.toNatClampNeg).toInt) (s1 : (ρ.1 8 t.toNatClampNeg).toInt.toNat < 2 ^ (ρ.1 0 3).toInt.toNat) (hw : ∀ k : Nat, k < 12 → σ.1 (182 + 6 * b + 1) k = if (ρ.1 8 t.toNatClampNeg).toInt.toNat.testBit k then ρ.1 15 (12 * t.toNatClampNeg + k) else 0) (h : fX8_seatAll τ b σ z = some (u, σ')) (h2 : fX12_sits ρ t = some (u2, ρ')) : (SE b t σ' ρ' ∧ ρ'.1 17 t.toNatClampNeg = σ'.1 (182 + 6 * b) 5 ∧ AH b σ' ∧ σ'.1 (182 + 6 * b) 1 = z ∧ σ'.1 (182 + 6 * b) 7 = 0 ∧ (σ'.1 (182 + 6 * b) 5).toInt = cnS (σ'.1 (182 + 6 * b + 4)) 1000) ∧ (∀ k i : Nat, k ≠ 182 + 6 * b + 4 → k ≠ 182 + 6 * b + 5 → ¬ (k = 182 + 6 * b ∧ (i = 1 ∨ i = 5 ∨ i = 7)) → σ'.1 k i = σ.1 k i) ∧ (∀ k i : Nat, ¬ (k = 18 ∧ 1000 * t.toNatClampNeg ≤ i ∧ i < 1000 * t.toNatClampNeg + 1000) → ¬ (k = 17 ∧ i = t.toNatClampNeg) → ρ'.1 k i = ρ.1 k i) := by
  unfold fX8_seatAll fX8_seatAll_0 at h
  unfold fX12_sits fX12_sits_0 at h2
  dsimp only [nm] at h
  obtain ⟨u3, σ3, f3, h⟩ := bsS h
  unfold fJ7_fill_031fb fJ7_fill_031fb_0 nm at f3
  have g5 : (ux_wI (ux_wI (ux_wI σ (182 + 6 * b) 1 z) (182 + 6 * b) 5 0) (182 + 6 * b) 7 0).1 (182 + 6 * b) 5 = 0 := by rw [wI_i _ _ _ (by decide), wI_eq]
  have g1 : (ux_wI (ux_wI (ux_wI σ (182 + 6 * b) 1 z) (182 + 6 * b) 5 0) (182 + 6 * b) 7 0).1 (182 + 6 * b) 1 = z := by rw [wI_i _ _ _ (by decide), wI_i _ _ _ (by decide), wI_eq]
  have g7 : (ux_wI (ux_wI (ux_wI σ (182 + 6 * b) 1 z) (182 + 6 * b) 5 0) (182 + 6 * b) 7 0).1 (182 + 6 * b) 7 = 0 := wI_eq _ _ _ _
  have gr : ∀ k i : Nat, ¬ (k = 182 + 6 * b ∧ (i = 1 ∨ i = 5 ∨ i = 7)) → (ux_wI (ux_wI (ux_wI σ (182 + 6 * b) 1 z) (182 + 6 * b) 5 0) (182 + 6 * b) 7 0).1 k i = σ.1 k i := fun k i hn => by
    by_cases q : k = 182 + 6 * b
    · subst q
      rw [wI_i _ _ _ (fun w => hn ⟨rfl, Or.inr (Or.inr w)⟩), wI_i _ _ _ (fun w => hn ⟨rfl, Or.inr (Or.inl w)⟩), wI_i _ _ _ (fun w => hn ⟨rfl, Or.inl w⟩)]
    · rw [wI_k _ _ _ _ q, wI_k _ _ _ _ q, wI_k _ _ _ _ q]
  generalize ux_wI (ux_wI (ux_wI σ (182 + 6 * b) 1 z) (182 + 6 * b) 5 0) (182 + 6 * b) 7 0 = σ2 at f3 g5 g1 g7 gr
  obtain ⟨w1, w2⟩ := c_fill1000 (σ0 := σ2) FU σ2 0 (by decide) (by decide) (fun p hp => absurd hp (by rw [i_0]; omega)) (fun _ _ _ => rfl) _ f3
  have w1 : ∀ p : Nat, p < 1000 → σ3.1 (182 + 6 * b + 4) p = -1 := w1
  have w2 : ∀ k j : Nat, k ≠ 182 + 6 * b + 4 → σ3.1 k j = σ2.1 k j := w2
  have key : Pt (fun c : Unit × S2 => ∃ ρ2 : S2, (∀ k i : Nat, ¬ (k = 18 ∧ 1000 * t.toNatClampNeg ≤ i ∧ i < 1000 * t.toNatClampNeg + 1000) → ¬ (k = 17 ∧ i = t.toNatClampNeg) → ρ2.1 k i = ρ.1 k i) ∧ ∃ σ1 : S2, SJ b t σ3 ρ2 σ1 c.2 ∧ bs (fX8_linkPlaces τ b σ1) (fun _ σ11 => some ((), σ11)) = some (u, σ')) (fX12_sits_2 FU ρ t 0) := by
    refine m_sits2 (ρ0 := ρ) t0 t1 (fun ρ2 x1 x2 x3 => ?_) FU ρ 0 (by decide) (by decide) (fun p hp => absurd hp (by rw [i_0]; omega)) (fun _ _ _ => rfl)
    have e3 : ρ2.1 0 3 = ρ.1 0 3 := x3 0 3 (fun w => absurd w.1 (by decide)) (fun w => absurd w.1 (by decide))
    have e8 : ρ2.1 8 t.toNatClampNeg = ρ.1 8 t.toNatClampNeg := x3 8 _ (fun w => absurd w.1 (by decide)) (fun w => absurd w.1 (by decide))
    have e9 : ρ2.1 9 t.toNatClampNeg = ρ.1 9 t.toNatClampNeg := x3 9 _ (fun w => absurd w.1 (by decide)) (fun w => absurd w.1 (by decide))
    have hJ : SJ b t σ3 ρ2 σ3 ρ2 := ⟨fun p hp => by rw [x1 p hp, w1 p hp], by rw [x2, w2 _ _ (by omega), g5], fun _ _ _ _ => rfl, fun _ _ _ _ => rfl, by rw [w2 _ _ (by omega), g5, cnS_zero 1000 (fun p hp => by rw [w1 p hp]; exact i_m1)]; rfl⟩
    exact fun c hc => ⟨ρ2, x3, seat_out t0 t1 (e9.trans hz) (by rw [e3]; exact n0) (by rw [e3]; exact n1) (by rw [e8]; exact s0) (by rw [e8, e3]; exact s1) (fun k hk => by rw [w2 _ _ (by omega), gr _ _ (by omega), e8, x3 15 _ (fun w => absurd w.1 (by decide)) (fun w => absurd w.1 (by decide))]; exact hw k hk) (fun σ x r hr => strewn_rng hi σ x r hr) FU FU σ3 ρ2 0 _ c hJ (by decide) (by rw [e3, i_0]; exact n0) h hc⟩
  obtain ⟨ρ2, x3, σ1, hJ, hl⟩ := key _ h2
  obtain ⟨u9, σ9, f9, hl⟩ := bsS hl
  cases hl
  obtain ⟨l1, l2⟩ := link_all _ f9
  have l2 : ∀ k j : Nat, k ≠ 182 + 6 * b + 5 → σ'.1 k j = σ1.1 k j := l2
  have e4 : ∀ p : Nat, σ'.1 (182 + 6 * b + 4) p = σ1.1 (182 + 6 * b + 4) p := fun p => l2 _ p (by omega)
  obtain ⟨j1, j2, j3, j4, j5⟩ := hJ
  refine ⟨⟨fun p hp => ?_, ?_, fun p hp he => ?_, ?_, ?_, ?_⟩, fun k i h4 h5 hn => ?_, fun k i h18 h17 => ?_⟩
  · rw [e4]; exact j1 p hp
  · rw [l2 _ _ (by omega)]; exact j2
  · obtain ⟨q, hq, hn⟩ := he
    obtain ⟨d, hd, a1, a2, a3, a4⟩ := l1 p hp ⟨q, hq, by rw [← e4]; exact hn⟩
    exact ⟨d, hd, a1, a2, by rw [e4]; exact a3, fun j j0 jd => by rw [e4]; exact a4 j j0 jd⟩
  · rw [l2 _ _ (by omega), j3 _ _ (by omega) (by omega), w2 _ _ (by omega), g1]
  · rw [l2 _ _ (by omega), j3 _ _ (by omega) (by omega), w2 _ _ (by omega), g7]
  · rw [l2 _ _ (by omega), j5]; exact (cnS_same 1000 (fun p _ => e4 p)).symm
  · rw [l2 k i h5, j3 k i h4 (fun w => hn ⟨w.1, Or.inr (Or.inl w.2)⟩), w2 k i h4, gr k i hn]
  · rw [j4 k i h18 h17, x3 k i h18 h17]
end SEATS3
