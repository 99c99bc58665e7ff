/-! tables: a row of the reference and a block of the class -/
section RTAB
noncomputable def RT1 (σ ρ : S2) (n : Nat) : Prop := ((σ.1 (182 + 6 * (n + 1)) 6).toInt ≤ 80 ∧ 0 < (ρ.1 8 n).toInt) ∧ (ρ.1 8 n = σ.1 (182 + 6 * (n + 1)) 0 ∧ ρ.1 9 n = σ.1 (182 + 6 * (n + 1)) 1 ∧ ρ.1 10 n = σ.1 (182 + 6 * (n + 1)) 2 ∧ ρ.1 11 n = σ.1 (182 + 6 * (n + 1)) 3 ∧ ρ.1 12 n = σ.1 (182 + 6 * (n + 1)) 4 ∧ ρ.1 17 n = σ.1 (182 + 6 * (n + 1)) 5 ∧ ρ.1 13 n = σ.1 (182 + 6 * (n + 1)) 6) ∧ (∀ i : Nat, (i : Int) < (σ.1 (182 + 6 * (n + 1)) 6).toInt → ρ.1 14 (80 * n + i) = σ.1 (182 + 6 * (n + 1) + 3) i &&& 255) ∧ (∀ k : Nat, k < 12 → σ.1 (182 + 6 * (n + 1) + 1) k = if (ρ.1 8 n).toInt.toNat.testBit k then ρ.1 15 (12 * n + k) else 0) ∧ (∀ k : Nat, k < 12 → (ρ.1 8 n).toInt.toNat.testBit k = true → ρ.1 16 (12 * n + k) = σ.1 9 k) ∧ (∀ p : Nat, p < 1000 → ρ.1 18 (1000 * n + p) = σ.1 (182 + 6 * (n + 1) + 4) p) ∧ AH (n + 1) σ ∧ (σ.1 (182 + 6 * (n + 1)) 5).toInt = cnS (σ.1 (182 + 6 * (n + 1) + 4)) 1000
noncomputable def RTab (σ ρ : S2) : Prop := ∀ n : Nat, (n : Int) < (σ.1 0 6).toInt → RT1 σ ρ n
/-- the first N rows of tables stand as they were -/
noncomputable def KR (N : Nat) (ρ ρ' : S2) : Prop := (∀ k i : Nat, (k = 8 ∨ k = 9 ∨ k = 10 ∨ k = 11 ∨ k = 12 ∨ k = 13 ∨ k = 17) → i < N → ρ'.1 k i = ρ.1 k i) ∧ (∀ i : Nat, i < 80 * N → ρ'.1 14 i = ρ.1 14 i) ∧ (∀ k i : Nat, (k = 15 ∨ k = 16) → i < 12 * N → ρ'.1 k i = ρ.1 k i) ∧ ∀ i : Nat, i < 1000 * N → ρ'.1 18 i = ρ.1 18 i
theorem KR.of {N m : Nat} {ρ ρ' : S2} (h : Fr gM m ρ ρ') (e : m.testBit 9 = false) : KR N ρ ρ' := by
  have g : ∀ k i : Nat, 8 ≤ k → k ≤ 18 → ρ'.1 k i = ρ.1 k i := fun k i h8 h18 => (h k i (by rw [gM_9 h8 h18]; exact e)).1
  exact ⟨fun k i hk _ => g k i (by omega) (by omega), fun i _ => g 14 i (by decide) (by decide), fun k i hk _ => g k i (by omega) (by omega), fun i _ => g 18 i (by decide) (by decide)⟩
theorem KR.trans {N : Nat} {a b c : S2} (h : KR N a b) (h2 : KR N b c) : KR N a c := ⟨fun k i hk hi => (h2.1 k i hk hi).trans (h.1 k i hk hi), fun i hi => (h2.2.1 i hi).trans (h.2.1 i hi), fun k i hk hi => (h2.2.2.1 k i hk hi).trans (h.2.2.1 k i hk hi), fun i hi => (h2.2.2.2 i hi).trans (h.2.2.2 i hi)⟩
theorem gC_t {n j i : Nat} (hj : j < 6) (h : ¬ (j = 0 ∧ i = 7)) (h2 : j ≠ 2) : gC (182 + 6 * (n + 1) + j) i = 9 := by
  unfold gC
  rw [if_neg (by omega), if_neg (by omega), if_neg (by omega), if_neg (by omega), if_neg (by omega), if_neg (by omega), if_neg (by omega), if_neg (by omega), if_neg (by omega), if_neg (by omega), show (182 + 6 * (n + 1) + j - 182) % 6 = j by omega]
  have hj : j = 0 ∨ j = 1 ∨ j = 3 ∨ j = 4 ∨ j = 5 := by omega
  rcases hj with rfl | rfl | rfl | rfl | rfl
  · show (if i = 7 then 10 else 9) = 9
    rw [if_neg (fun w => h ⟨rfl, w⟩)]
  · rfl
  · rfl
  · rfl
  · rfl
theorem gC_t0 {n i : Nat} (h : i ≠ 7) : gC (182 + 6 * (n + 1)) i = 9 := gC_t (j := 0) (by decide) (fun w => h w.2) (by decide)
/-- a block that stands as it was -/
noncomputable def KB (n : Nat) (σ σ' : S2) : Prop := (∀ i : Nat, i ≠ 7 → σ'.1 (182 + 6 * (n + 1)) i = σ.1 (182 + 6 * (n + 1)) i) ∧ ∀ j i : Nat, (j = 1 ∨ j = 3 ∨ j = 4 ∨ j = 5) → σ'.1 (182 + 6 * (n + 1) + j) i = σ.1 (182 + 6 * (n + 1) + j) i
theorem KB.of {σ σ' : S2} {a n : Nat} (hc : Fr gC a σ σ') (e : a.testBit 9 = false) : KB n σ σ' := by
  refine ⟨fun i hi => (hc _ i (by rw [gC_t0 hi]; exact e)).1, fun j i hj => (hc _ i (by rw [gC_t (by omega) (by omega) (by omega)]; exact e)).1⟩
theorem RT1.kept {σ ρ σ' ρ' : S2} {n N : Nat} (h : RT1 σ ρ n) (hn : n < N) (hb : KB n σ σ') (hk : KR N ρ ρ') (hs : ∀ k : Nat, k < 12 → (ρ.1 8 n).toInt.toNat.testBit k = true → σ'.1 9 k = σ.1 9 k) : RT1 σ' ρ' n := by
  obtain ⟨l80, ⟨a0, a1, a2, a3, a4, a5, a6⟩, b1, c1, d1, e1, f1, s1⟩ := h
  obtain ⟨k1, k2, k3, k4⟩ := hk
  obtain ⟨g1, g2⟩ := hb
  have r8 : ρ'.1 8 n = ρ.1 8 n := k1 8 n (by omega) hn
  refine ⟨⟨by rw [g1 6 (by decide)]; exact l80.1, by rw [r8]; exact l80.2⟩, ⟨?_, ?_, ?_, ?_, ?_, ?_, ?_⟩, fun i hi => ?_, fun k hk => ?_, fun k hk ht => ?_, fun p hp => ?_, fun p hp he => ?_, by rw [g1 5 (by decide), s1]; exact (cnS_same 1000 (fun p _ => g2 4 p (by omega))).symm⟩
  · rw [r8, g1 0 (by decide)]; exact a0
  · rw [k1 9 n (by omega) hn, g1 1 (by decide)]; exact a1
  · rw [k1 10 n (by omega) hn, g1 2 (by decide)]; exact a2
  · rw [k1 11 n (by omega) hn, g1 3 (by decide)]; exact a3
  · rw [k1 12 n (by omega) hn, g1 4 (by decide)]; exact a4
  · rw [k1 17 n (by omega) hn, g1 5 (by decide)]; exact a5
  · rw [k1 13 n (by omega) hn, g1 6 (by decide)]; exact a6
  · rw [g1 6 (by decide)] at hi
    rw [k2 _ (by omega), g2 3 i (by omega)]; exact b1 i hi
  · rw [r8, g2 1 k (by omega), k3 15 _ (by omega) (by omega)]; exact c1 k hk
  · rw [r8] at ht
    rw [k3 16 _ (by omega) (by omega), hs k hk ht]; exact d1 k hk ht
  · rw [k4 _ (by omega), g2 4 p (by omega)]; exact e1 p hp
  · obtain ⟨q, hq, hne⟩ := he
    rw [g2 4 q (by omega)] at hne
    obtain ⟨d, hd, x1, x2, x3, x4⟩ := f1 p hp ⟨q, hq, hne⟩
    rw [g2 5 p (by omega)]
    exact ⟨d, hd, x1, x2, by rw [g2 4 _ (by omega)]; exact x3, fun j j0 jd => by rw [g2 4 _ (by omega)]; exact x4 j j0 jd⟩
theorem KB.trans {n : Nat} {a b c : S2} (h : KB n a b) (h2 : KB n b c) : KB n a c := ⟨fun i hi => (h2.1 i hi).trans (h.1 i hi), fun j i hj => (h2.2 j i hj).trans (h.2 j i hj)⟩
/-- all cells of the blocks below the new one stand -/
theorem KB.cells {n τ : Nat} {σ σ' : S2} (hn : n < τ) (h : ∀ k i : Nat, 188 ≤ k → k < 182 + 6 * (τ + 1) → σ'.1 k i = σ.1 k i) : KB n σ σ' := ⟨fun i _ => h _ i (by omega) (by omega), fun j i hj => h _ i (by omega) (by omega)⟩
section MADE
variable {σ ρ σ' ρ' σ8 σ10 ρ1 ρ2 ρ3 ρ4 : S2} {τ δ : Nat} {a b r r9 r5 : Int32} {u u2 : Unit}
/-- a table is made on both sides: the new row, and the old ones stand -/
theorem tab_made (hK : RK σ ρ) (hT : RTp σ ρ) (hN : ρ.1 0 9 = σ.1 0 6) (hI : IvC 0 τ σ) (hs : 0 < a.toInt ∧ a.toInt < 2 ^ (σ.1 7 5).toInt.toNat) (h10 : (σ.1 0 6).toInt < 10) (hD : D8 σ σ8 a) (hMT : MT ρ ρ1 (ρ.1 0 9) a b) (f9 : fX3_workOut τ σ8 = some (r9, σ10)) (m2 : fX12_numbers ρ1 (ρ.1 0 9) = some (u, ρ2)) (m3 : fX12_reads ρ2 (ρ.1 0 9) = some (r5, ρ3)) (hPC : PC (ρ.1 0 9) σ10 ρ3) (h : tabNew τ σ10 b = some (r, δ, σ')) (k4 : fX12_sits ρ3 (ρ.1 0 9) = some (u2, ρ4)) (e' : ρ' = ux_wI ρ4 0 9 (ρ4.1 0 9 + 1)) : RT1 σ' ρ' τ ∧ (∀ n : Nat, n < τ → KB n σ σ') ∧ KR τ ρ ρ' ∧ (∀ k : Nat, σ'.1 9 k = σ.1 9 k) := by
  obtain ⟨k1, k2, k3, k4', k5⟩ := hK
  obtain ⟨⟨w8, w9, w13, w22⟩, wk, wl, wf, wr, wl2, wk2⟩ := hMT
  obtain ⟨c0, s182, s183, s6, s185, e11⟩ := hD
  have tb : 0 ≤ (σ.1 0 6).toInt ∧ (σ.1 0 6).toInt ≤ 10 := hI.1 0 6
  have nb : 0 ≤ (σ.1 7 5).toInt ∧ (σ.1 7 5).toInt ≤ 12 := hI.1 7 5
  have lb : 0 ≤ (σ.1 1 1).toInt ∧ (σ.1 1 1).toInt ≤ 80 := hI.1 1 1
  have hτ := hI.2.2
  have t0 : 0 ≤ (ρ.1 0 9).toInt := by rw [hN]; exact tb.1
  have t1 : (ρ.1 0 9).toInt ≤ 10 := by rw [hN]; exact tb.2
  have nt := i32_nat t0
  have et : (ρ.1 0 9).toNatClampNeg = τ := by rw [hN] at nt ⊢; omega
  rw [et] at w8 w9 w13 wk wl wr wl2 wk2
  have fw := wfX3_workOut (m := 8388609) rfl τ σ8 (Fr.rf σ8) _ f9
  have fn := wfX12_numbers (m := 1) rfl ρ1 (ρ.1 0 9) (Fr.rf ρ1) _ m2
  have fr := wfX12_reads (m := 513) rfl ρ2 (ρ.1 0 9) (Fr.rf ρ2) _ m3
  have nr : NR τ ρ2 ρ3 := by have := nr_reads _ m3; rw [et] at this; exact this
  have du : DU σ8 σ10 := du_work _ f9
  -- the reference's row behind the readers
  have q : ∀ k i : Nat, 8 ≤ k → k ≤ 18 → ¬ ((k = 10 ∨ k = 11 ∨ k = 12) ∧ i = τ) → ρ3.1 k i = ρ1.1 k i := fun k i h8 h18 hn => (nr k i h8 h18 hn).trans (fn k i (by rw [gM_9 h8 h18]; rfl)).1
  have r3 : ρ3.1 0 3 = σ.1 7 5 := by rw [fr.at 0 3 3 rfl rfl, fn.at 0 3 3 rfl rfl, wf 0 3 (fun w => absurd w.2 (by decide)) (by decide) (by decide) (by decide) (by decide) (by decide) (by decide), k1]
  have r8 : ρ3.1 8 τ = a := by rw [q 8 τ (by decide) (by decide) (by omega), w8]
  have r9' : ρ3.1 9 τ = b := by rw [q 9 τ (by decide) (by decide) (by omega), w9]
  have r13 : ρ3.1 13 τ = σ.1 1 1 := by rw [q 13 τ (by decide) (by decide) (by omega), w13, hT.1]
  have r14 : ∀ i : Nat, (i : Int) < (σ.1 1 1).toInt → ρ3.1 14 (80 * τ + i) = σ.1 2 i &&& 255 := fun i hi => by rw [q 14 _ (by decide) (by decide) (by omega), wl i (by rw [hT.1]; exact hi), hT.2 i]
  have mem : ∀ k : Nat, a.toInt.toNat.testBit k = true → (k : Int) < (σ.1 7 5).toInt := fun k ht => by
    have cw : ((2 ^ (σ.1 7 5).toInt.toNat : Nat) : Int) = (2 : Int) ^ (σ.1 7 5).toInt.toNat := by rw [Int.natCast_pow]; rfl
    by_cases c : (k : Int) < (σ.1 7 5).toInt
    · exact c
    · rw [Nat.testBit_lt_two_pow (Nat.lt_of_lt_of_le (show a.toInt.toNat < 2 ^ (σ.1 7 5).toInt.toNat by omega) (Nat.pow_le_pow_right (by decide) (by omega)))] at ht; cases ht
  have r15 : ∀ k : Nat, a.toInt.toNat.testBit k = true → ρ3.1 15 (12 * τ + k) = cntI (σ.1 8 k) (σ.1 10 k) ∧ ρ3.1 16 (12 * τ + k) = σ.1 9 k := fun k ht => by
    have w := wk k (by rw [k1]; exact mem k ht)
    rw [q 15 _ (by decide) (by decide) (by omega), q 16 _ (by decide) (by decide) (by omega), w.1, w.2, k2, k5, k4']
    exact ⟨rfl, rfl⟩
  -- the class's draft
  have d0 : σ10.1 182 0 = a := by rw [du 182 0 (Or.inl ⟨rfl, Or.inl rfl⟩), s182]
  have d6 : σ10.1 182 6 = σ.1 1 1 := by rw [du 182 6 (Or.inl ⟨rfl, Or.inr rfl⟩), s6]
  have d183 : ∀ k : Nat, k < 12 → σ10.1 183 k = if a.toInt.toNat.testBit k then cntI (σ.1 8 k) (σ.1 10 k) else 0 := fun k hk => by rw [du 183 k (Or.inr (Or.inl rfl)), s183 k hk]
  have d185 : ∀ i : Nat, (i : Int) < (σ.1 1 1).toInt → σ10.1 185 i = σ.1 2 i := fun i hi => by rw [du 185 i (Or.inr (Or.inr rfl)), s185 i hi]
  have d9 : ∀ k : Nat, σ10.1 9 k = σ.1 9 k := fun k => by rw [fw.at 9 k 5 rfl rfl, c0 9 k (by decide) (by decide) (by decide) (fun w => absurd w.1 (by decide))]
  -- the new block
  unfold tabNew tabRest at h
  obtain ⟨u5, s5, f5, h⟩ := bsS h
  obtain ⟨u6, s6', f6, h⟩ := bsS h
  obtain ⟨_, h⟩ := ckS h
  have eN : ∀ k i : Nat, k < 182 + 6 * (τ + 1) → (nT σ10 (τ + 1)).1 k i = σ10.1 k i := fun k i hk => by
    show (if k < 182 + 6 * (τ + 1) then σ10.1 k else _) i = _
    rw [if_pos hk]
  have n6 : (nT σ10 (τ + 1)).1 (182 + 6 * 0) 6 = σ.1 1 1 := by rw [eN _ _ (by omega)]; exact d6
  obtain ⟨⟨x0, x2, x3, x4, x6⟩, xw, xl, xf⟩ := take_all (b := τ + 1) (b1 := 0) (by omega) (by rw [n6]; exact lb.1) (by rw [n6]; exact lb.2) _ f5
  have x0 : s5.1 (182 + 6 * (τ + 1)) 0 = a := x0.trans ((eN _ _ (by omega)).trans d0)
  have x2 : s5.1 (182 + 6 * (τ + 1)) 2 = σ10.1 182 2 := x2.trans (eN _ _ (by omega))
  have x3 : s5.1 (182 + 6 * (τ + 1)) 3 = σ10.1 182 3 := x3.trans (eN _ _ (by omega))
  have x4 : s5.1 (182 + 6 * (τ + 1)) 4 = σ10.1 182 4 := x4.trans (eN _ _ (by omega))
  have x6 : s5.1 (182 + 6 * (τ + 1)) 6 = σ.1 1 1 := x6.trans n6
  have xw : ∀ k : Nat, k < 12 → s5.1 (182 + 6 * (τ + 1) + 1) k = if a.toInt.toNat.testBit k then cntI (σ.1 8 k) (σ.1 10 k) else 0 := fun k hk => (xw k hk).trans ((eN _ _ (by omega)).trans (d183 k hk))
  have xl : ∀ i : Nat, (i : Int) < (σ.1 1 1).toInt → s5.1 (182 + 6 * (τ + 1) + 3) i = σ.1 2 i := fun i hi => (xl i (by rw [n6]; exact hi)).trans ((eN _ _ (by omega)).trans (d185 i hi))
  have xf : ∀ k i : Nat, k < 182 + 6 * (τ + 1) → s5.1 k i = σ10.1 k i := fun k i hk => (xf k i (by omega) (by omega) (by omega)).trans (eN k i hk)
  obtain ⟨⟨y1, y2, y3, y4, y5, y6⟩, yf, yg⟩ := seats_eq (b := τ + 1) (t := ρ.1 0 9) (z := b) hI t0 t1 (by rw [et]; exact r9') (by rw [r3]; exact nb.1) (by rw [r3]; exact nb.2) (by rw [et, r8]; omega) (by rw [et, r8, r3]; have cw : ((2 ^ (σ.1 7 5).toInt.toNat : Nat) : Int) = (2 : Int) ^ (σ.1 7 5).toInt.toNat := (by rw [Int.natCast_pow]; rfl); omega) (fun k hk => by
    rw [et, r8, xw k hk]
    by_cases c : a.toInt.toNat.testBit k = true
    · rw [if_pos c, if_pos c, (r15 k c).1]
    · rw [if_neg c, if_neg c]) f6 k4
  rw [et] at y2 yg
  have y1 : ∀ p : Nat, p < 1000 → ρ4.1 18 (1000 * τ + p) = s6'.1 (182 + 6 * (τ + 1) + 4) p := fun p hp => by have := y1 p hp; rw [et] at this; exact this
  have e9 : σ' = ux_wI s6' 0 6 (s6'.1 0 6 + 1) := by
    by_cases c : Int32.toNatClampNeg (s6'.1 0 6) = τ
    · rw [if_pos c] at h
      have h : some ((ux_wI s6' 0 6 (s6'.1 0 6 + 1)).1 0 6 - 1, 1, ux_wI s6' 0 6 (s6'.1 0 6 + 1)) = some (r, δ, σ') := h
      cases h; rfl
    · rw [if_neg c] at h; cases h
  have z : ∀ k i : Nat, k ≠ 0 → σ'.1 k i = s6'.1 k i := fun k i hk => by rw [e9, wI_k _ _ _ _ hk]
  have zr : ∀ k i : Nat, k ≠ 0 → ρ'.1 k i = ρ4.1 k i := fun k i hk => by rw [e', wI_k _ _ _ _ hk]
  have zb : ∀ i : Nat, ¬ (i = 1 ∨ i = 5 ∨ i = 7) → σ'.1 (182 + 6 * (τ + 1)) i = s5.1 (182 + 6 * (τ + 1)) i := fun i hi => by rw [z _ _ (by omega), yf _ _ (by omega) (by omega) (fun w => hi w.2)]
  have r4 : ∀ k i : Nat, k ≠ 18 → k ≠ 17 → k ≠ 0 → ρ'.1 k i = ρ3.1 k i := fun k i h1 h2 h3 => by rw [zr k i h3, yg k i (fun w => h1 w.1) (fun w => h2 w.1)]
  obtain ⟨p1, p2, p3⟩ := hPC
  rw [et] at p1 p2 p3
  refine ⟨⟨?_, ⟨?_, ?_, ?_, ?_, ?_, ?_, ?_⟩, fun i hi => ?_, fun k hk => ?_, fun k hk ht => ?_, fun p hp => ?_, fun p hp he => ?_, by rw [z _ _ (by omega), y6]; exact (cnS_same 1000 (fun p _ => z _ p (by omega))).symm⟩, fun n hn => ?_, ?_, fun k => ?_⟩
  · exact ⟨by rw [zb 6 (by decide), x6]; exact lb.2, by rw [r4 8 _ (by decide) (by decide) (by decide), r8]; exact hs.1⟩
  · rw [r4 8 _ (by decide) (by decide) (by decide), r8, zb 0 (by decide), x0]
  · rw [r4 9 _ (by decide) (by decide) (by decide), r9', z _ _ (by omega), y4]
  · rw [r4 10 _ (by decide) (by decide) (by decide), p1, zb 2 (by decide), x2]
  · rw [r4 11 _ (by decide) (by decide) (by decide), p2, zb 3 (by decide), x3]
  · rw [r4 12 _ (by decide) (by decide) (by decide), p3, zb 4 (by decide), x4]
  · rw [zr 17 _ (by decide), y2, z _ _ (by omega)]
  · rw [r4 13 _ (by decide) (by decide) (by decide), r13, zb 6 (by decide), x6]
  · rw [zb 6 (by decide), x6] at hi
    rw [r4 14 _ (by decide) (by decide) (by decide), r14 i hi, z _ _ (by omega), yf _ _ (by omega) (by omega) (by omega), xl i hi]
  · rw [r4 8 _ (by decide) (by decide) (by decide), r8, z _ _ (by omega), yf _ _ (by omega) (by omega) (by omega), xw k hk, r4 15 _ (by decide) (by decide) (by decide)]
    by_cases c : a.toInt.toNat.testBit k = true
    · rw [if_pos c, if_pos c, (r15 k c).1]
    · rw [if_neg c, if_neg c]
  · rw [r4 8 _ (by decide) (by decide) (by decide), r8] at ht
    rw [r4 16 _ (by decide) (by decide) (by decide), (r15 k ht).2, z _ _ (by decide), yf _ _ (by omega) (by omega) (by omega), xf _ _ (by omega), d9]
  · rw [zr 18 _ (by decide), y1 p hp, z _ _ (by omega)]
  · obtain ⟨g, hg, hne⟩ := he
    rw [z _ _ (by omega)] at hne
    obtain ⟨d, hd, v1, v2, v3, v4⟩ := y3 p hp ⟨g, hg, hne⟩
    rw [z _ _ (show 182 + 6 * (τ + 1) + 5 ≠ 0 by omega)]
    exact ⟨d, hd, v1, v2, by rw [z _ _ (by omega)]; exact v3, fun j j0 jd => by rw [z _ _ (by omega)]; exact v4 j j0 jd⟩
  · have kb1 : KB n σ σ8 := ⟨fun i _ => c0 _ i (by omega) (by omega) (by omega) (by omega), fun j i hj => c0 _ i (by omega) (by omega) (by omega) (by omega)⟩
    have kb2 : KB n σ8 σ10 := KB.of fw rfl
    have kb3 : KB n σ10 σ' := KB.cells hn (fun k i h1 h2 => by rw [z k i (by omega), yf k i (by omega) (by omega) (by omega), xf k i h2])
    exact (kb1.trans kb2).trans kb3
  · have kr1 : KR τ ρ ρ1 := by
      refine ⟨fun k i hk hi => ?_, fun i hi => wl2 i (Or.inl hi), fun k i hk hi => wk2 k i hk (Or.inl hi), fun i hi => wf 18 i (fun w => absurd w.1 (by decide)) (by decide) (by decide) (by decide) (by decide) (by decide) (by decide)⟩
      by_cases c : k = 8 ∨ k = 9 ∨ k = 13
      · exact wr k i c (by omega)
      · exact wf k i (by omega) (by omega) (by omega) (by omega) (by omega) (by omega) (by omega)
    have kr2 : KR τ ρ1 ρ3 := ⟨fun k i hk hi => q k i (by omega) (by omega) (by omega), fun i hi => q 14 i (by decide) (by decide) (by omega), fun k i hk hi => q k i (by omega) (by omega) (by omega), fun i hi => q 18 i (by decide) (by decide) (by omega)⟩
    have kr3 : KR τ ρ3 ρ' := by
      refine ⟨fun k i hk hi => ?_, fun i hi => r4 14 i (by decide) (by decide) (by decide), fun k i hk hi => r4 k i (by omega) (by omega) (by omega), fun i hi => ?_⟩
      · by_cases c : k = 17
        · rw [c, zr 17 _ (by decide), yg 17 i (by omega) (by omega)]
        · exact r4 k i (by omega) c (by omega)
      · rw [zr 18 _ (by decide), yg 18 i (by omega) (by omega)]
    exact (kr1.trans kr2).trans kr3
  · rw [z _ _ (by decide), yf _ _ (by omega) (by omega) (by omega), xf _ _ (by omega), d9]
end MADE
end RTAB
