/-! picking by the walk: round and by jumps -/
noncomputable def cw (f : Nat → Int32) (m : Nat) : Nat → Int
  | 0 => 0
  | D + 1 => cw f m D + (if (f ((m + D) % 1000)).toInt = -1 then 0 else 1)
section CW
variable {f : Nat → Int32} {m : Nat}
theorem cw_s (D : Nat) : cw f m (D + 1) = cw f m D + (if (f ((m + D) % 1000)).toInt = -1 then 0 else 1) := rfl
theorem cw_mono : ∀ (D e : Nat), cw f m D ≤ cw f m (D + e) := by
  intro D e
  induction e with
  | zero => exact Int.le_refl _
  | succ e ih =>
    rw [show D + (e + 1) = D + e + 1 by omega, cw_s]
    by_cases c : (f ((m + (D + e)) % 1000)).toInt = -1
    · rw [if_pos c]; omega
    · rw [if_neg c]; omega
theorem cw_gap : ∀ (D e : Nat), (∀ i : Nat, D ≤ i → i < D + e → (f ((m + i) % 1000)).toInt = -1) → cw f m (D + e) = cw f m D := by
  intro D e
  induction e with
  | zero => intro _; rfl
  | succ e ih =>
    intro h
    rw [show D + (e + 1) = D + e + 1 by omega, cw_s, if_pos (h (D + e) (by omega) (by omega)), ih (fun i h1 h2 => h i h1 (by omega)), Int.add_zero]
theorem cw_end {D j : Nat} (h1 : D ≤ j) (h2 : j < 1000) (h : cw f m 1000 ≤ cw f m D) : (f ((m + j) % 1000)).toInt = -1 := by
  by_cases c : (f ((m + j) % 1000)).toInt = -1
  · exact c
  · exfalso
    have a := cw_mono (f := f) (m := m) D (j - D)
    rw [show D + (j - D) = j by omega] at a
    have b := cw_s (f := f) (m := m) j
    rw [if_neg c] at b
    have d := cw_mono (f := f) (m := m) (j + 1) (1000 - (j + 1))
    rw [show j + 1 + (1000 - (j + 1)) = 1000 by omega] at d
    omega
theorem cn_s (n : Nat) : cnS f (n + 1) = cnS f n + (if (f n).toInt = -1 then 0 else 1) := rfl
theorem cw_lo : ∀ D : Nat, m + D ≤ 1000 → cw f m D = cnS f (m + D) - cnS f m := by
  intro D
  induction D with
  | zero => intro _; show (0 : Int) = cnS f m - cnS f m; omega
  | succ D ih =>
    intro h
    rw [cw_s, ih (by omega), show m + (D + 1) = m + D + 1 by omega, cn_s, Nat.mod_eq_of_lt (show m + D < 1000 by omega)]; omega
theorem cw_hi (hm : m < 1000) : ∀ k : Nat, k ≤ m → cw f m (1000 - m + k) = cnS f 1000 - cnS f m + cnS f k := by
  intro k
  induction k with
  | zero =>
    intro _
    have z : cnS f 0 = 0 := rfl
    rw [Nat.add_zero, cw_lo (1000 - m) (by omega), show m + (1000 - m) = 1000 by omega, z]; omega
  | succ k ih =>
    intro h
    rw [show 1000 - m + (k + 1) = 1000 - m + k + 1 by omega, cw_s, ih (by omega), cn_s k, show (m + (1000 - m + k)) % 1000 = k by omega]; omega
theorem cw_full (hm : m < 1000) : cw f m 1000 = cnS f 1000 := by
  have h := cw_hi (f := f) hm m (Nat.le_refl _)
  rw [show 1000 - m + m = 1000 by omega] at h
  rw [h]; omega
end CW
section ROUND
variable {τ b : Nat} {t m : Int32}
/-- same bits, same set -/
theorem set_eq {a c : Int32} (a0 : 0 ≤ a.toInt) (c0 : 0 ≤ c.toInt) (a1 : a.toInt ≤ 4095) (c1 : c.toInt ≤ 4095) (h : ∀ k : Nat, k < 12 → a.toInt.toNat.testBit k = c.toInt.toNat.testBit k) : a = c := by
  refine Int32.toInt_inj.mp ?_
  have e : a.toInt.toNat = c.toInt.toNat := Nat.eq_of_testBit_eq (fun k => by
    by_cases q : k < 12
    · exact h k q
    · have p : 2 ^ 12 ≤ 2 ^ k := Nat.pow_le_pow_right (by decide) (by omega)
      have e : 2 ^ 12 = 4096 := by decide
      rw [Nat.testBit_lt_two_pow (show a.toInt.toNat < 2 ^ k by omega), Nat.testBit_lt_two_pow (show c.toInt.toNat < 2 ^ k by omega)])
  omega
/-- the reference stops when all are picked -/
theorem m_done {σ0 ρ0 σ ρ : S2} {s x4 : Int32} (hP : PT b t σ0 ρ0) (hS : PS σ0 ρ0 σ ρ s) (he : s = σ0.1 (182 + 6 * b) 0) {M : Nat} {c : Unit × S2} (h : fX12_pick_10 M ρ t m s x4 = some c) : c.2 = ρ := by
  cases M with
  | zero => cases h
  | succ M =>
    unfold fX12_pick_10 at h
    obtain ⟨_, h⟩ := ckS h
    dsimp only [nm] at h
    rw [if_pos (by rw [he, hS.2.2.2.2.2.2 8 _ (fun w => absurd w.1 (by decide)) (by decide)]; exact hP.2.2.1.symm)] at h
    cases h; rfl
/-- the set so far lies in the table's set; the walk from x on has met D places, i of them taken, all their keepers picked -/
noncomputable def WK (b : Nat) (σ0 : S2) (s : Int32) (x D i : Int) : Prop := (0 ≤ D ∧ D ≤ 1000) ∧ i = cw (σ0.1 (182 + 6 * b + 4)) x.toNat D.toNat ∧ ∀ j : Int, 0 ≤ j → j < D → σ0.1 (182 + 6 * b + 4) ((x + j) % 1000).toNat = -1 ∨ s.toInt.toNat.testBit (σ0.1 (182 + 6 * b + 4) ((x + j) % 1000).toNat).toInt.toNat = true
noncomputable def SB (b : Nat) (σ0 : S2) (s : Int32) : Prop := ∀ k : Nat, s.toInt.toNat.testBit k = true → (σ0.1 (182 + 6 * b) 0).toInt.toNat.testBit k = true
/-- all taken places met: all are picked -/
theorem wk_all {σ0 ρ0 : S2} {s : Int32} {x D i : Int} (hP : PT b t σ0 ρ0) (s0 : 0 ≤ s.toInt) (s1 : s.toInt ≤ 4095) (hB : SB b σ0 s) (x0 : 0 ≤ x) (x1 : x ≤ 999) (hW : WK b σ0 s x D i) (hi : (σ0.1 (182 + 6 * b) 5).toInt ≤ i) : s = σ0.1 (182 + 6 * b) 0 := by
  obtain ⟨_, _, _, _, ⟨t0, t1⟩, _, hA, _, hc⟩ := hP
  obtain ⟨⟨d0, d1⟩, w1, w2⟩ := hW
  refine set_eq s0 t0 s1 t1 (fun k hk => ?_)
  cases q : (σ0.1 (182 + 6 * b) 0).toInt.toNat.testBit k
  · cases q2 : s.toInt.toNat.testBit k
    · rfl
    · exact absurd (hB k q2) (by rw [q]; decide)
  · obtain ⟨p, hp, hk2⟩ := hA k hk q
    have ej : (x + ((p : Int) - x) % 1000) % 1000 = p := by omega
    have j0 : 0 ≤ ((p : Int) - x) % 1000 ∧ ((p : Int) - x) % 1000 < 1000 := by omega
    by_cases c : ((p : Int) - x) % 1000 < D
    · rcases w2 _ j0.1 c with w | w
      · rw [ej] at w
        have e : σ0.1 (182 + 6 * b + 4) p = -1 := w
        rw [e, i_m1] at hk2; omega
      · rw [ej] at w
        have w : s.toInt.toNat.testBit (σ0.1 (182 + 6 * b + 4) p).toInt.toNat = true := w
        rw [hk2] at w; exact w
    · exfalso
      have cf := cw_full (f := σ0.1 (182 + 6 * b + 4)) (m := x.toNat) (by omega)
      have e := cw_end (f := σ0.1 (182 + 6 * b + 4)) (m := x.toNat) (D := D.toNat) (j := (((p : Int) - x) % 1000).toNat) (by omega) (by omega) (by rw [cf, ← hc, ← w1]; exact hi)
      rw [show (x.toNat + (((p : Int) - x) % 1000).toNat) % 1000 = p by omega, hk2] at e
      omega
/-- the next taken place, while some are left -/
theorem wk_next {σ0 ρ0 : S2} {s : Int32} {x D i p : Int} (hP : PT b t σ0 ρ0) (x0 : 0 ≤ x) (x1 : x ≤ 999) (hW : WK b σ0 s x D i) (hi : i < (σ0.1 (182 + 6 * b) 5).toInt) (hp : p = (x + D) % 1000) : ∃ d : Int, 0 ≤ d ∧ D + d < 1000 ∧ (σ0.1 (182 + 6 * b + 5) p.toNat).toInt = (x + (D + d)) % 1000 ∧ σ0.1 (182 + 6 * b + 4) ((x + (D + d)) % 1000).toNat ≠ -1 ∧ (∀ j : Int, D ≤ j → j < D + d → σ0.1 (182 + 6 * b + 4) ((x + j) % 1000).toNat = -1) ∧ i + 1 = cw (σ0.1 (182 + 6 * b + 4)) x.toNat (D + d + 1).toNat := by
  obtain ⟨_, _, _, _, _, hO, _, hH, hc⟩ := hP
  obtain ⟨⟨d0, d1⟩, w1, w2⟩ := hW
  have y1 := i_m1
  have cf := cw_full (f := σ0.1 (182 + 6 * b + 4)) (m := x.toNat) (by omega)
  have some_left : ∃ q : Nat, q < 1000 ∧ σ0.1 (182 + 6 * b + 4) q ≠ -1 := by
    by_cases c : ∃ q : Nat, q < 1000 ∧ σ0.1 (182 + 6 * b + 4) q ≠ -1
    · exact c
    · exfalso
      have g := cw_gap (f := σ0.1 (182 + 6 * b + 4)) (m := x.toNat) 0 1000 (fun i _ _ => by
        by_cases q : σ0.1 (182 + 6 * b + 4) ((x.toNat + i) % 1000) = -1
        · rw [q, y1]
        · exact absurd ⟨_, Nat.mod_lt _ (by decide), q⟩ c)
      have m0 := cw_mono (f := σ0.1 (182 + 6 * b + 4)) (m := x.toNat) 0 D.toNat
      have z : cw (σ0.1 (182 + 6 * b + 4)) x.toNat 0 = 0 := rfl
      rw [Nat.zero_add] at g m0
      omega
  have p0 : 0 ≤ p ∧ p < 1000 := by omega
  obtain ⟨d, hd, f0, f1, f2, f3⟩ := hH p.toNat (by omega) some_left
  rw [show ((p.toNat : Nat) : Int) = p by omega] at f1 f3
  have er : (p + d) % 1000 = (x + (D + d)) % 1000 := by omega
  have gap : ∀ j : Int, D ≤ j → j < D + d → σ0.1 (182 + 6 * b + 4) ((x + j) % 1000).toNat = -1 := fun j j0 jd => by
    have := f3 (j - D) (by omega) (by omega)
    rw [show (p + (j - D)) % 1000 = (x + j) % 1000 by omega] at this; exact this
  have lt : D + d < 1000 := by
    by_cases c : D + d < 1000
    · exact c
    · exfalso
      have g := cw_gap (f := σ0.1 (182 + 6 * b + 4)) (m := x.toNat) D.toNat (1000 - D.toNat) (fun i h1 h2 => by
        have := gap (i : Int) (by omega) (by omega)
        rw [show ((x + (i : Int)) % 1000).toNat = (x.toNat + i) % 1000 by omega] at this
        rw [this, y1])
      rw [show D.toNat + (1000 - D.toNat) = 1000 by omega, cf] at g
      omega
  rw [f1, er] at f2
  refine ⟨d, f0, lt, f1.trans er, f2, gap, ?_⟩
  have g := cw_gap (f := σ0.1 (182 + 6 * b + 4)) (m := x.toNat) D.toNat d.toNat (fun i h1 h2 => by
    have := gap (i : Int) (by omega) (by omega)
    rw [show ((x + (i : Int)) % 1000).toNat = (x.toNat + i) % 1000 by omega] at this
    rw [this, y1])
  have st := cw_s (f := σ0.1 (182 + 6 * b + 4)) (m := x.toNat) (D.toNat + d.toNat)
  rw [if_neg (fun w => f2 (by rw [show ((x + (D + d)) % 1000).toNat = (x.toNat + (D.toNat + d.toNat)) % 1000 by omega]; exact Int32.toInt_inj.mp (w.trans y1.symm)))] at st
  rw [show (D + d + 1).toNat = D.toNat + d.toNat + 1 by omega, st, g, w1]
/-- the walk goes on behind a taken place whose keeper is picked -/
theorem WK.go {σ0 : S2} {s s2 : Int32} {x D d i : Int} (hW : WK b σ0 s x D i) (hs : ∀ k : Nat, s.toInt.toNat.testBit k = true → s2.toInt.toNat.testBit k = true) (d0 : 0 ≤ d) (hd : D + d < 1000) (gap : ∀ j : Int, D ≤ j → j < D + d → σ0.1 (182 + 6 * b + 4) ((x + j) % 1000).toNat = -1) (hn : s2.toInt.toNat.testBit (σ0.1 (182 + 6 * b + 4) ((x + (D + d)) % 1000).toNat).toInt.toNat = true) (hc : i + 1 = cw (σ0.1 (182 + 6 * b + 4)) x.toNat (D + d + 1).toNat) : WK b σ0 s2 x (D + d + 1) (i + 1) := by
  obtain ⟨⟨e0, e1⟩, w1, w2⟩ := hW
  refine ⟨⟨by omega, by omega⟩, hc, fun j j0 jd => ?_⟩
  by_cases c : j < D
  · exact (w2 j j0 c).imp id (hs _)
  · by_cases c2 : j < D + d
    · exact Or.inl (gap j (by omega) c2)
    · rw [show j = D + d by omega]; exact Or.inr hn
theorem round_lp {σ0 ρ0 : S2} (hP : PT b t σ0 ρ0) (hw1 : σ0.1 (182 + 6 * b) 4 ≠ 1) (hw2 : σ0.1 (182 + 6 * b) 4 ≠ 2) (m0 : 0 ≤ m.toInt) (m1 : m.toInt ≤ 999) : ∀ (N M : Nat) (σ ρ : S2) (s p i : Int32) (D : Int) (a c : Unit × S2), PS σ0 ρ0 σ ρ s → SB b σ0 s → WK b σ0 s m.toInt D i.toInt → p.toInt = (m.toInt + D) % 1000 → fX1_pickRound_5 τ b N σ p i = some a → fX12_pick_10 M ρ t m s m = some c → ∃ s2 : Int32, PS σ0 ρ0 a.2 c.2 s2 ∧ SB b σ0 s2 := by
  have z1 := i_1
  intro N
  induction N with
  | zero => intro M σ ρ s p i D a c _ _ _ _ h; cases h
  | succ N ih =>
    intro M σ ρ s p i D a c hS hB hW hp h h2
    obtain ⟨p1, p2, p3, p4, ⟨p5, p6⟩, p7, p8⟩ := id hS
    have hcn := cnS_rng (f := σ0.1 (182 + 6 * b + 4)) 1000
    have hc9 := hP.2.2.2.2.2.2.2.2
    unfold fX1_pickRound_5 at h
    rw [p7 _ 5 (show 182 + 6 * b ≠ 14 by omega) (by omega) (by omega), p7 _ 0 (show 182 + 6 * b ≠ 14 by omega) (by omega) (by omega), p4] at h
    by_cases c1 : σ0.1 (182 + 6 * b) 5 ≤ i
    · rw [if_pos c1] at h
      cases h
      have e := wk_all hP p5 p6 hB m0 m1 hW (Int32.le_iff_toInt_le.mp c1)
      rw [m_done hP hS e h2]
      exact ⟨s, hS, hB⟩
    rw [if_neg c1] at h
    have c1' : i.toInt < (σ0.1 (182 + 6 * b) 5).toInt := by
      have : ¬ (σ0.1 (182 + 6 * b) 5).toInt ≤ i.toInt := fun w => c1 (Int32.le_iff_toInt_le.mpr w)
      omega
    by_cases c2 : s = σ0.1 (182 + 6 * b) 0
    · rw [if_pos c2] at h
      cases h
      rw [m_done hP hS c2 h2]
      exact ⟨s, hS, hB⟩
    rw [if_neg c2] at h
    obtain ⟨d, d0, lt, q1, q2, q3, q4⟩ := wk_next hP m0 m1 hW c1' hp
    obtain ⟨_, h⟩ := ckS h
    dsimp only [nm] at h
    have np := i32_nat (i := p) (by omega)
    have ri := i32_rng i
    have i1 : (i + 1).toInt = i.toInt + 1 := by rw [i32_add (by omega) (by omega)]; omega
    have o0 := (hP.2.2.2.2.2.1 ((m.toInt + (D + d)) % 1000).toNat (by omega)).resolve_left q2
    rw [p7 (182 + 6 * b + 5) _ (by omega) (by omega) (by omega), show p.toNatClampNeg = p.toInt.toNat by omega] at h
    generalize σ0.1 (182 + 6 * b + 5) p.toInt.toNat = v4 at h q1
    have n4 := i32_nat (i := v4) (by omega)
    obtain ⟨_, h⟩ := ckS h
    rw [p7 (182 + 6 * b + 4) _ (by omega) (by omega) (by omega), show v4.toNatClampNeg = ((m.toInt + (D + d)) % 1000).toNat by omega] at h
    generalize eo : σ0.1 (182 + 6 * b + 4) ((m.toInt + (D + d)) % 1000).toNat = o at h o0
    obtain ⟨r6, f6, h⟩ := biS h
    have g6 := c_is (by rw [p4]; exact p5) (by rw [p4]; exact p6) o0.1 o0.2.1 _ f6
    rw [p4] at g6
    rcases g6 with ⟨e6, b6⟩ | ⟨e6, b6⟩
    · -- met before
      rw [if_neg (by rw [e6]; decide)] at h
      unfold fX1_pickRound_55 at h
      obtain ⟨r1, f1, h⟩ := biS h
      have h1 := c_behind (by omega) (by omega) _ f1
      exact ih M σ ρ s r1 (i + 1) (D + d + 1) a c hS hB (by rw [i1]; exact hW.go (fun _ w => w) d0 lt q3 (by rw [eo]; exact b6) q4) (by omega) h h2
    · -- a new one
      rw [if_pos e6] at h
      obtain ⟨_, h⟩ := ckS h
      cases M with
      | zero => cases h2
      | succ M =>
        have hF : FN (σ0.1 (182 + 6 * b + 4)) s m.toInt (D + d) ((m.toInt + (D + d)) % 1000) := by
          refine ⟨by have := hW.1.1; omega, rfl, q2, by rw [eo]; exact b6, fun j j0 jd => ?_⟩
          by_cases w : j < D
          · exact hW.2.2 j j0 w
          · exact Or.inl (q3 j (by omega) jd)
        obtain ⟨c12, h2⟩ := m_step (Q := fun c => (σ.1 14 2).toInt < 12 ∧ fX12_pick_10 M (ux_wI (ux_wI ρ 35 (ρ.1 0 53).toNatClampNeg (σ0.1 (182 + 6 * b + 4) ((m.toInt + (D + d)) % 1000).toNat)) 0 53 (ρ.1 0 53 + 1)) t m (s ||| (1 <<< (σ0.1 (182 + 6 * b + 4) ((m.toInt + (D + d)) % 1000).toNat &&& 31))) m = some c) hP hS c2 hw1 m0 m1 hF (fun l y _ y2 c hc => ⟨l, by rw [y2 hw2] at hc; exact hc⟩) _ h2
        rw [eo] at h2
        obtain ⟨u9, σ9, f9, h⟩ := bsS h
        have e9 : σ9 = ux_wI (ux_wI (ux_wI σ 15 (σ.1 14 2).toNatClampNeg o) 14 2 (σ.1 14 2 + 1)) 14 6 (σ.1 14 6 ||| (1 <<< (o &&& 31))) := by
          refine c_take (τ := τ) c12 (u9, σ9) ?_
          first
            | exact f9
            | rw [p7 (182 + 6 * b + 4) _ (by omega) (by omega) (by omega), show v4.toNatClampNeg = ((m.toInt + (D + d)) % 1000).toNat by omega, eo] at f9
              exact f9
        rw [p4] at e9
        have hS2 := hS.put o0.1 o0.2.1 c12
        rw [← e9] at hS2
        have ob := or_bit (x := s) (v := o) (k := o.toInt.toNat) p5 (by omega) (by omega)
        unfold fX1_pickRound_55 at h
        obtain ⟨r1, f1, h⟩ := biS h
        have h1 := c_behind (by omega) (by omega) _ f1
        refine ih M σ9 _ _ r1 (i + 1) (D + d + 1) a c hS2 (fun k hk => ?_) (by rw [i1]; exact hW.go (fun k w => by rw [ob.2, w]; rfl) d0 lt q3 (by rw [eo, ob.2]; simp) q4) (by omega) h h2
        rw [ob.2] at hk
        cases w : s.toInt.toNat.testBit k
        · rw [w] at hk
          have : k = o.toInt.toNat := by simpa using hk
          rw [this]; exact o0.2.2
        · exact hB k w
end ROUND
