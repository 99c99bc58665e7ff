/-! the sorted picks of the class; the reference's best one after another -/
section BEST
variable {τ b : Nat} {t m : Int32}
theorem sums_c {σ0 : S2} (s0 : 0 ≤ (σ0.1 (182 + 6 * b) 0).toInt) (s1 : (σ0.1 (182 + 6 * b) 0).toInt ≤ 4095) : ∀ (N : Nat) (σ : S2) (k : Int32) (n : Nat), 0 ≤ k.toInt → k.toInt ≤ 12 → (σ.1 14 2).toInt = (n : Int) → (n : Int) ≤ k.toInt → SRT b σ0 m k.toInt n (σ.1 15) (σ.1 17) → (∀ j i : Nat, j ≠ 14 → j ≠ 15 → j ≠ 17 → σ.1 j i = σ0.1 j i) → Pt (fun z : Unit × S2 => (∃ n : Nat, n ≤ 12 ∧ (z.2.1 14 2).toInt = (n : Int) ∧ SRT b σ0 m 12 n (z.2.1 15) (z.2.1 17)) ∧ z.2.1 14 6 = σ0.1 (182 + 6 * b) 0 ∧ ∀ j i : Nat, j ≠ 14 → j ≠ 15 → j ≠ 17 → z.2.1 j i = σ0.1 j i) (fX1_pickBySums_2 τ b N σ m k) := by
  have z1 := i_1
  have z12 := i_12
  intro N
  induction N with
  | zero => intro σ k n _ _ _ _ _ _; exact pt_none
  | succ N ih =>
    intro σ k n k0 k1 hn hle hT hf
    have nk := i32_nat k0
    have e1 : k.toInt ≤ 11 → (k + 1).toInt = k.toInt + 1 := fun _ => by rw [i32_add (by omega) (by omega)]; omega
    unfold fX1_pickBySums_2 fX1_pickBySums_132
    rw [hf _ 0 (show 182 + 6 * b ≠ 14 by omega) (by omega) (by omega)]
    refine pt_le (fun h => pt_nm (fun s12 es => pt_some ⟨⟨n, by omega, ?_, ?_⟩, ?_, fun j i h14 h15 h17 => ?_⟩)) (fun h => ?_)
    · show (s12.1 14 2).toInt = _
      rw [es, wI_i _ _ _ (by decide)]; exact hn
    · show SRT b σ0 m 12 n (s12.1 15) (s12.1 17)
      have g15 : s12.1 15 = σ.1 15 := by funext i; rw [es, wI_k _ _ _ _ (by decide)]
      have g17 : s12.1 17 = σ.1 17 := by funext i; rw [es, wI_k _ _ _ _ (by decide)]
      rw [g15, g17, show (12 : Int) = k.toInt by omega]; exact hT
    · show s12.1 14 6 = _
      rw [es, wI_eq]
    · show s12.1 j i = _
      rw [es, wI_k _ _ _ _ h14]; exact hf j i h14 h15 h17
    have bq := bit_1 (x := k) s0 s1 k0 (by omega)
    refine pt_if (fun c => pt_nm (fun v1 ev => ?_)) (fun c => ?_)
    · have q := bq.2.mp c
      rw [ev]
      refine ih σ (k + 1) n (by have := e1 (by omega); omega) (by have := e1 (by omega); omega) hn (by have := e1 (by omega); omega) ?_ hf
      rw [e1 (by omega)]
      obtain ⟨a1, a2, a3⟩ := hT
      refine ⟨fun i hi => ?_, a2, fun x hx ht => ?_⟩
      · have p := a1 i hi
        exact ⟨p.1, by omega, p.2.2⟩
      · by_cases w : (x : Int) < k.toInt
        · exact a3 x w ht
        · rw [show x = k.toInt.toNat by omega, q] at ht; cases ht
    · have q : (σ0.1 (182 + 6 * b) 0).toInt.toNat.testBit k.toInt.toNat = true := by
        cases w : (σ0.1 (182 + 6 * b) 0).toInt.toNat.testBit k.toInt.toNat
        · exact absurd (bq.2.mpr w) c
        · rfl
      refine pt_bi (P := fun r => r = Sm b σ0 m k) ?_ (fun r13 h13 => pt_nm (fun v15 e15 => pt_nm (fun v16 e16 => ?_)))
      · unfold fX8_sumOf fX8_sumOf_0
        rw [hf _ 1 (show 182 + 6 * b ≠ 14 by omega) (by omega) (by omega)]
        refine pt_bi (P := fun r => r = sx (((m * 7919) + (k * 104729)) + σ0.1 (182 + 6 * b) 1)) (fun z hz => by rw [sx_c] at hz; exact (Option.some.inj hz).symm) (fun r1 h1 => pt_ck (fun _ _ _ => pt_nm (fun v3 e3 => pt_some ?_)))
        rw [h1, e3, hf _ _ (by omega) (by omega) (by omega)]; rfl
      · rw [e15, e16, show σ.1 14 2 = Int32.ofNat n from Int32.toInt_inj.mp (by rw [hn, Int32.toInt_ofNat_of_lt (by omega)])]
        have nn : (Int32.ofNat n).toInt = (n : Int) := Int32.toInt_ofNat_of_lt (by omega)
        have n11 : n ≤ 11 := by omega
        refine ins_42 (σ0 := σ0) (c := n) (L := σ.1 15) (U := σ.1 17) n11 (fun σ2 i hi g1 g2 g3 g4 g5 g6 => ?_) FU σ (Int32.ofNat n) (by omega) (by omega) (fun a _ => ⟨rfl, rfl⟩) (fun a ha hc => by exfalso; omega) hn hf
        refine ih σ2 (k + 1) (n + 1) (by have := e1 (by omega); omega) (by have := e1 (by omega); omega) (by rw [g5]; omega) (by have := e1 (by omega); omega) ?_ g6
        rw [e1 (by omega)]
        exact srt_put hT k0 q h13 hi g1 g2 g3 g4
theorem bf_ge {σ0 : S2} {x y : Int32} (h : (Sm b σ0 m y).toInt ≤ (Sm b σ0 m x).toInt) (hl : x.toInt < y.toInt) : bf b σ0 m x y := by
  rcases Int.lt_or_eq_of_le h with r | r
  · exact Or.inl r
  · exact Or.inr ⟨r.symm, hl⟩
/-- the weights and the turn alike on both sides -/
noncomputable def PW (b : Nat) (t : Int32) (σ ρ : S2) : Prop := ρ.1 9 t.toNatClampNeg = σ.1 (182 + 6 * b) 1 ∧ (∀ k : Nat, k < 12 → (σ.1 (182 + 6 * b) 0).toInt.toNat.testBit k = true → ρ.1 15 (12 * t.toNatClampNeg + k) = σ.1 (182 + 6 * b + 1) k) ∧ (0 ≤ (ρ.1 0 3).toInt ∧ (ρ.1 0 3).toInt ≤ 12) ∧ (σ.1 (182 + 6 * b) 0).toInt.toNat < 2 ^ (ρ.1 0 3).toInt.toNat
/-- k is of the set and not seen -/
noncomputable def UN (b : Nat) (σ0 : S2) (s : Int32) (k : Nat) : Prop := (σ0.1 (182 + 6 * b) 0).toInt.toNat.testBit k = true ∧ s.toInt.toNat.testBit k = false
theorem best_9 {Q : Unit × S2 → Prop} {σ0 ρ0 ρ : S2} {s : Int32} (hP : PT b t σ0 ρ0) (hW : PW b t σ0 ρ0) (s0 : 0 ≤ s.toInt) (s1 : s.toInt ≤ 4095) (hf : ∀ k i : Nat, ¬ (k = 0 ∧ i = 53) → k ≠ 35 → ρ.1 k i = ρ0.1 k i) (hx : ∃ k : Nat, k < 12 ∧ UN b σ0 s k) (kx : ∀ y : Int32, 0 ≤ y.toInt → y.toInt ≤ 11 → UN b σ0 s y.toInt.toNat → (∀ j : Int32, 0 ≤ j.toInt → j.toInt ≤ 11 → UN b σ0 s j.toInt.toNat → j ≠ y → bf b σ0 m y j) → (ρ.1 0 53).toInt < 12 → Pt Q (some ((), ux_wI (ux_wI ρ 35 (ρ.1 0 53).toNatClampNeg y) 0 53 (ρ.1 0 53 + 1)))) : ∀ (N : Nat) (x4 x5 x6 : Int32), 0 ≤ x6.toInt → x6.toInt ≤ 12 → ((x4 = -1 ∧ ∀ j : Nat, (j : Int) < x6.toInt → ¬ UN b σ0 s j) ∨ (0 ≤ x4.toInt ∧ x4.toInt < x6.toInt ∧ UN b σ0 s x4.toInt.toNat ∧ x5 = Sm b σ0 m x4 ∧ ∀ j : Int32, 0 ≤ j.toInt → j.toInt < x6.toInt → UN b σ0 s j.toInt.toNat → j ≠ x4 → bf b σ0 m x4 j)) → Pt Q (fX12_pickBest_9 N ρ t m s x4 x5 x6) := by
  have z0 := i_0
  have z1 := i_1
  have y1 := i_m1
  have e12 : (12 : Int32).toInt = 12 := rfl
  obtain ⟨⟨t0, t1⟩, _, h8, _, ⟨a0, a1⟩, _, _, _, _⟩ := hP
  obtain ⟨w9, w15, ⟨n0, n1⟩, wlt⟩ := hW
  have nt := i32_nat t0
  have f3 : ρ.1 0 3 = ρ0.1 0 3 := hf 0 3 (fun w => absurd w.2 (by decide)) (by decide)
  have f8 : ρ.1 8 t.toNatClampNeg = σ0.1 (182 + 6 * b) 0 := (hf 8 _ (fun w => absurd w.1 (by decide)) (by decide)).trans h8
  have f9 : ρ.1 9 t.toNatClampNeg = σ0.1 (182 + 6 * b) 1 := (hf 9 _ (fun w => absurd w.1 (by decide)) (by decide)).trans w9
  have lt3 : ∀ k : Nat, (σ0.1 (182 + 6 * b) 0).toInt.toNat.testBit k = true → (k : Int) < (ρ0.1 0 3).toInt := fun k hk => by
    by_cases c : (k : Int) < (ρ0.1 0 3).toInt
    · exact c
    · rw [Nat.testBit_lt_two_pow (Nat.lt_of_lt_of_le wlt (Nat.pow_le_pow_right (by decide) (by omega)))] at hk; cases hk
  intro N
  induction N with
  | zero => intro x4 x5 x6 _ _ _; exact pt_none
  | succ N ih =>
    intro x4 x5 x6 k0 k1 hinv
    have nk := i32_nat k0
    unfold fX12_pickBest_9
    rw [f3]
    refine pt_le (fun h => ?_) (fun h => ?_)
    · -- the end
      rcases hinv with ⟨_, w⟩ | ⟨u0, u1, u2, u3, u4⟩
      · obtain ⟨k, hk, hu⟩ := hx
        have := lt3 k hu.1
        exact absurd hu (w k (by omega))
      · refine pt_ck (fun g0 g1 _ => pt_nm (fun s2 e2 => pt_nm (fun s3 e3 => ?_)))
        rw [e3, e2, wI_k _ _ _ _ (by decide)]
        refine kx x4 u0 (by omega) u2 (fun j j0 j1 hj hne => ?_) (by omega)
        have := lt3 j.toInt.toNat hj.1
        exact u4 j j0 (by omega) hj hne
    · have e1 : (x6 + 1).toInt = x6.toInt + 1 := by rw [i32_add (by omega) (by omega)]; omega
      have m12 := i32_mulL (a := 12) (b := t) e12 (by omega) (by omega)
      have ix : (12 * t + x6).toInt = 12 * t.toInt + x6.toInt := by rw [i32_add (by omega) (by omega)]; omega
      have nx := i32_nat (i := 12 * t + x6) (by omega)
      have ex : (12 * t + x6).toNatClampNeg = 12 * t.toNatClampNeg + x6.toNatClampNeg := by omega
      have keep : (¬ UN b σ0 s x6.toInt.toNat ∨ (x4 ≠ -1 ∧ (Sm b σ0 m x6).toInt ≤ x5.toInt)) → Pt Q (fX12_pickBest_85 (fX12_pickBest_9 N) ρ t m s x4 x5 x6) := fun hk => by
        unfold fX12_pickBest_85
        refine pt_nm (fun v e => ?_)
        rw [e]
        refine ih x4 x5 (x6 + 1) (by omega) (by omega) ?_
        rcases hinv with ⟨p, w⟩ | ⟨u0, u1, u2, u3, u4⟩
        · rcases hk with hk | hk
          · refine Or.inl ⟨p, fun j hj => ?_⟩
            by_cases q : (j : Int) < x6.toInt
            · exact w j q
            · rw [show j = x6.toInt.toNat by omega]; exact hk
          · exact absurd p hk.1
        · refine Or.inr ⟨u0, by omega, u2, u3, fun j j0 j1 hj hne => ?_⟩
          by_cases q : j.toInt < x6.toInt
          · exact u4 j j0 q hj hne
          · have ej : j = x6 := Int32.toInt_inj.mp (by omega)
            rcases hk with hk | hk
            · rw [ej] at hj; exact absurd hj hk
            · have h2 := hk.2
              rw [u3, ← ej] at h2
              exact bf_ge h2 (by rw [ej]; exact u1)
      have take : ∀ v : Int32, v = Sm b σ0 m x6 → UN b σ0 s x6.toInt.toNat → (x4 = -1 ∨ x5.toInt < v.toInt) → Pt Q (fX12_pickBest_77 (fX12_pickBest_9 N) ρ t m s x6 v) := fun v hv hu hk => by
        unfold fX12_pickBest_77 fX12_pickBest_85
        refine pt_nm (fun w e => ?_)
        rw [e]
        refine ih x6 v (x6 + 1) (by omega) (by omega) (Or.inr ⟨k0, by omega, hu, hv, fun j j0 j1 hj hne => ?_⟩)
        have q : j.toInt < x6.toInt := by
          by_cases q : j.toInt < x6.toInt
          · exact q
          · exact absurd (Int32.toInt_inj.mp (by omega)) hne
        rcases hinv with ⟨_, w⟩ | ⟨u0, u1, u2, u3, u4⟩
        · exact absurd hj (w _ (by omega))
        · have h2 : x5.toInt < v.toInt := by
            rcases hk with hk | hk
            · rw [hk, y1] at u0; omega
            · exact hk
          rw [u3, hv] at h2
          by_cases r : j = x4
          · rw [r]; exact Or.inl h2
          · rcases u4 j j0 q hj r with p | p
            · exact Or.inl (Int.lt_trans p h2)
            · exact Or.inl (Int.lt_of_le_of_lt (Int.le_of_eq p.1.symm) h2)
      refine pt_ck (fun _ _ _ => pt_nm (fun v4 e4 => pt_bi (P := fun r => r = sx (((m * 7919) + (x6 * 104729)) + σ0.1 (182 + 6 * b) 1)) (fun r hr => ?_) (fun r5 h5 => pt_ck (fun _ _ _ => pt_nm (fun v7 e7 => pt_nm (fun v8 e8 => pt_bi (P := fun r => r = if (σ0.1 (182 + 6 * b) 0).toInt.toNat.testBit x6.toNatClampNeg then 1 else 0) (fun r hr => ?_) (fun r9 h9 => ?_)))))))
      · rw [e4, f9, mixed_eq (τ := 0) (σ := σ0), sx_c] at hr
        exact (Option.some.inj hr).symm
      · have := isIn_q hr (by rw [f8]; exact a0) (by rw [f8]; exact a1) k0 (by omega)
        rw [f8] at this; exact this
      rw [show x6.toNatClampNeg = x6.toInt.toNat by omega] at h9
      cases qm : (σ0.1 (182 + 6 * b) 0).toInt.toNat.testBit x6.toInt.toNat
      · rw [qm, if_neg (by decide)] at h9
        refine pt_if (fun _ => keep (Or.inl (fun u => by rw [u.1] at qm; cases qm))) (fun c => absurd h9 c)
      · rw [qm, if_pos rfl] at h9
        have g7 : v7 = σ0.1 (182 + 6 * b + 1) x6.toNatClampNeg := by
          rw [e7, ex, hf 15 _ (fun w => absurd w.1 (by decide)) (by decide)]
          exact w15 _ (by omega) (by rw [show x6.toNatClampNeg = x6.toInt.toNat by omega]; exact qm)
        have g8 : v8 = Sm b σ0 m x6 := by rw [e8, h5, g7]; rfl
        have bq := bit_1 (x := x6) s0 s1 k0 (by omega)
        refine pt_if (fun c => absurd (h9.symm.trans c) (by decide)) (fun _ => pt_if (fun c => ?_) (fun c => keep (Or.inl (fun u => c (bq.2.mpr u.2)))))
        have hu : UN b σ0 s x6.toInt.toNat := ⟨qm, bq.2.mp c⟩
        refine pt_if (fun c4 => take v8 g8 hu (Or.inl c4)) (fun c4 => pt_le (fun hle => keep (Or.inr ⟨c4, by rw [← g8]; exact hle⟩)) (fun hlt => take v8 g8 hu (Or.inr hlt)))
/-- the reference's picks by sums are the sorted ones -/
theorem sums_m {σ0 ρ0 : S2} {n : Nat} {L U : Nat → Int32} (hP : PT b t σ0 ρ0) (hW : PW b t σ0 ρ0) (hw : σ0.1 (182 + 6 * b) 4 = 1) (hn : n ≤ 12) (hT : SRT b σ0 m 12 n L U) : ∀ (M : Nat) (ρ : S2) (s x4 : Int32) (j : Nat), j ≤ n → (ρ.1 0 53).toInt = (j : Int) → (∀ i : Nat, i < j → ρ.1 35 i = L i) → (0 ≤ s.toInt ∧ s.toInt ≤ 4095) → (∀ k : Nat, k < 12 → (s.toInt.toNat.testBit k = true ↔ ∃ i : Nat, i < j ∧ (L i).toInt = (k : Int))) → (∀ k i : Nat, ¬ (k = 0 ∧ i = 53) → k ≠ 35 → ρ.1 k i = ρ0.1 k i) → Pt (fun c : Unit × S2 => (c.2.1 0 53).toInt = (n : Int) ∧ (∀ i : Nat, i < n → c.2.1 35 i = L i) ∧ ∀ k i : Nat, ¬ (k = 0 ∧ i = 53) → k ≠ 35 → c.2.1 k i = ρ0.1 k i) (fX12_pick_10 M ρ t m s x4) := by
  have z1 := i_1
  obtain ⟨⟨t0, t1⟩, _, h8, h12, ⟨a0, a1⟩, _, _, _, _⟩ := id hP
  obtain ⟨b1, b2, b3⟩ := id hT
  intro M
  induction M with
  | zero => intro ρ s x4 j _ _ _ _ _ _; exact pt_none
  | succ M ih =>
    intro ρ s x4 j hj hc hl hs hk hf
    have f8 : ρ.1 8 t.toNatClampNeg = σ0.1 (182 + 6 * b) 0 := (hf 8 _ (fun w => absurd w.1 (by decide)) (by decide)).trans h8
    have f12 : ρ.1 12 t.toNatClampNeg = σ0.1 (182 + 6 * b) 4 := (hf 12 _ (fun w => absurd w.1 (by decide)) (by decide)).trans h12
    unfold fX12_pick_10
    refine pt_ck (fun _ _ _ => pt_nm (fun v3 e3 => pt_if (fun c => ?_) (fun c => pt_ck (fun _ _ _ => pt_nm (fun v4 e4 => pt_if (fun c4 => ?_) (fun c4 => absurd (e4.trans (f12.trans hw)) c4))))))
    · have es : s = σ0.1 (182 + 6 * b) 0 := c.trans (e3.trans f8)
      have ej : j = n := by
        by_cases q : j < n
        · exfalso
          have p := b1 j q
          have w := (hk (L j).toInt.toNat (by omega)).mp (by rw [es]; exact p.2.2.1)
          obtain ⟨i, hi, e⟩ := w
          have eL : L i = L j := Int32.toInt_inj.mp (by omega)
          have := b2 i j hi q
          rw [eL] at this
          exact bf_irr this this
        · omega
      rw [ej] at hc hl
      exact pt_some ⟨hc, hl, hf⟩
    · have ns : s ≠ σ0.1 (182 + 6 * b) 0 := fun w => c (w.trans (f8.symm.trans e3.symm))
      have left : ∃ k : Nat, k < 12 ∧ UN b σ0 s k := by
        by_cases q : ∃ k : Nat, k < 12 ∧ UN b σ0 s k
        · exact q
        · refine absurd (set_eq hs.1 a0 hs.2 a1 (fun k hk12 => ?_)) ns
          cases qa : (σ0.1 (182 + 6 * b) 0).toInt.toNat.testBit k
          · cases qs : s.toInt.toNat.testBit k
            · rfl
            · obtain ⟨i, hi, e⟩ := (hk k hk12).mp qs
              have p := (b1 i (by omega)).2.2.1
              rw [e, show ((k : Nat) : Int).toNat = k by omega, qa] at p; cases p
          · cases qs : s.toInt.toNat.testBit k
            · exact absurd ⟨k, hk12, qa, qs⟩ q
            · rfl
      have n53 := i32_nat (i := ρ.1 0 53) (by omega)
      refine pt_bs (P := fun z => j < n ∧ z.2 = ux_wI (ux_wI ρ 35 (ρ.1 0 53).toNatClampNeg (L j)) 0 53 (ρ.1 0 53 + 1)) ?_ (fun r10 σ11 h11 => ?_)
      · unfold fX12_pickBest fX12_pickBest_0
        refine best_9 hP hW hs.1 hs.2 hf left (fun y y0 y11 hu hbest l12 => pt_some ?_) FU (-1) 0 0 (by decide) (by decide) (Or.inl ⟨rfl, fun i hi => by rw [i_0] at hi; omega⟩)
        -- y is one of the sorted ones, behind the first j; the j-th is ahead of all of them
        have hy12 : ((y.toInt.toNat : Nat) : Int) < 12 := by omega
        obtain ⟨i, hi, e⟩ := b3 y.toInt.toNat hy12 hu.1
        have ey : L i = y := Int32.toInt_inj.mp (by omega)
        have ij : j ≤ i := by
          by_cases q : j ≤ i
          · exact q
          · have := (hk y.toInt.toNat (by omega)).mpr ⟨i, by omega, e⟩
            rw [hu.2] at this; cases this
        have pj := b1 j (by omega)
        have uj : UN b σ0 s (L j).toInt.toNat := by
          refine ⟨pj.2.2.1, ?_⟩
          cases q : s.toInt.toNat.testBit (L j).toInt.toNat
          · rfl
          · exfalso
            obtain ⟨i2, hi2, e2⟩ := (hk _ (by omega)).mp q
            have eL : L i2 = L j := Int32.toInt_inj.mp (by omega)
            have := b2 i2 j hi2 (by omega)
            rw [eL] at this
            exact bf_irr this this
        have eyj : y = L j := by
          by_cases q : L j = y
          · exact q.symm
          · exfalso
            have w1 := hbest (L j) pj.1 (by omega) uj q
            by_cases r : i = j
            · rw [r] at ey; exact q ey
            · have w2 := b2 j i (by omega) hi
              rw [ey] at w2
              exact bf_irr w1 w2
        exact ⟨by omega, by rw [eyj]⟩
      obtain ⟨jn, h11⟩ := h11
      have h11 : σ11 = ux_wI (ux_wI ρ 35 (ρ.1 0 53).toNatClampNeg (L j)) 0 53 (ρ.1 0 53 + 1) := h11
      have e53 : (ρ.1 0 53 + 1).toInt = (ρ.1 0 53).toInt + 1 := by rw [i32_add (by omega) (by omega)]; omega
      have g53 : σ11.1 0 53 = ρ.1 0 53 + 1 := by rw [h11, wI_eq]
      have em : (σ11.1 0 53 - 1).toInt = (ρ.1 0 53).toInt := by rw [g53, i32_sub (by omega) (by omega)]; omega
      have nm1 := i32_nat (i := σ11.1 0 53 - 1) (by omega)
      have o35 : ∀ i : Nat, σ11.1 35 i = if i = j then L j else ρ.1 35 i := fun i => by
        rw [h11, wI_k _ _ _ _ (show 35 ≠ 0 by decide)]
        by_cases q : i = j
        · rw [if_pos q, q, show (ρ.1 0 53).toNatClampNeg = j by omega, wI_eq]
        · rw [if_neg q, wI_i _ _ _ (by omega)]
      have pj := b1 j jn
      have ob := or_bit (x := s) (v := L j) (k := (L j).toInt.toNat) hs.1 (by omega) (by omega)
      have orr := i32_orB (a := s) (b := (1 : Int32) <<< (L j &&& 31)) 12 4095 (by decide) (by decide) hs.1 hs.2 (by have := i32_shlB (x := L j) 11 pj.1 (by omega) (by decide); omega) (by have := i32_shlB (x := L j) 11 pj.1 (by omega) (by decide); omega)
      unfold fX12_pick_75
      refine pt_ck (fun _ _ _ => pt_nm (fun v1 e1 => pt_nm (fun v2 e2 => ?_)))
      rw [show (σ11.1 0 53 - 1).toNatClampNeg = j by omega, o35, if_pos rfl] at e1
      rw [e2, e1]
      refine ih σ11 (s ||| (1 <<< (L j &&& 31))) x4 (j + 1) (by omega) (by rw [g53, e53, hc]; omega) (fun i hi => ?_) orr (fun k hk12 => ?_) (fun k i h0 h35 => ?_)
      · rw [o35]
        by_cases q : i = j
        · rw [if_pos q, q]
        · rw [if_neg q]; exact hl i (by omega)
      · rw [ob.2]
        constructor
        · intro h
          cases q : s.toInt.toNat.testBit k
          · rw [q] at h
            have : k = (L j).toInt.toNat := by simpa using h
            exact ⟨j, by omega, by omega⟩
          · obtain ⟨i, hi, e⟩ := (hk k hk12).mp q
            exact ⟨i, by omega, e⟩
        · rintro ⟨i, hi, e⟩
          by_cases q : i = j
          · rw [q] at e
            rw [show decide (k = (L j).toInt.toNat) = true from decide_eq_true (by omega), Bool.or_true]
          · rw [(hk k hk12).mpr ⟨i, by omega, e⟩]; rfl
      · rw [h11]
        have w : (ux_wI ρ 35 (ρ.1 0 53).toNatClampNeg (L j)).1 k i = ρ.1 k i := wI_k _ _ _ _ h35
        by_cases q : k = 0
        · subst q
          rw [wI_i _ _ _ (fun v => h0 ⟨rfl, v⟩), w]; exact hf _ i h0 h35
        · rw [wI_k _ _ _ _ q, w]; exact hf k i h0 h35
end BEST
