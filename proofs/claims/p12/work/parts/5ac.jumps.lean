/-! picking by jumps -/
section JUMPS
variable {τ b : Nat} {t m : Int32}
/-- while some of the set are not picked, the walk meets one -/
theorem first_from {σ0 ρ0 σ ρ : S2} {s : Int32} {x : Int} (hP : PT b t σ0 ρ0) (hS : PS σ0 ρ0 σ ρ s) (hB : SB b σ0 s) (hne : s ≠ σ0.1 (182 + 6 * b) 0) (x0 : 0 ≤ x) (x1 : x ≤ 999) (c12 : (σ.1 14 2).toInt < 12) : ∀ (N : Nat) (p i : Int32) (D : Int), WK b σ0 s x D i.toInt → p.toInt = (x + D) % 1000 → Pt (fun z : Unit × S2 => ∃ d r : Int, FN (σ0.1 (182 + 6 * b + 4)) s x d r ∧ z.2 = ux_wI (ux_wI (ux_wI σ 15 (σ.1 14 2).toNatClampNeg (σ0.1 (182 + 6 * b + 4) r.toNat)) 14 2 (σ.1 14 2 + 1)) 14 6 (s ||| (1 <<< (σ0.1 (182 + 6 * b + 4) r.toNat &&& 31)))) (fX1_pickFirstFrom_5 τ b N σ p i) := by
  have z1 := i_1
  obtain ⟨p1, p2, p3, p4, ⟨p5, p6⟩, p7, p8⟩ := id hS
  have hcn := cnS_rng (f := σ0.1 (182 + 6 * b + 4)) 1000
  have hc9 := hP.2.2.2.2.2.2.2.2
  intro N
  induction N with
  | zero => intro p i D _ _; exact pt_none
  | succ N ih =>
    intro p i D hW hp
    unfold fX1_pickFirstFrom_5
    rw [p7 _ 5 (show 182 + 6 * b ≠ 14 by omega) (by omega) (by omega)]
    refine pt_le (fun c1 => absurd (wk_all hP p5 p6 hB x0 x1 hW c1) hne) (fun c1 => ?_)
    obtain ⟨d, d0, lt, q1, q2, q3, q4⟩ := wk_next hP x0 x1 hW c1 hp
    have np := i32_nat (i := p) (by omega)
    have ri := i32_rng i
    have i1 : (i + 1).toInt = i.toInt + 1 := by rw [i32_add (by omega) (by omega)]; omega
    have o0 := (hP.2.2.2.2.2.1 ((x + (D + d)) % 1000).toNat (by omega)).resolve_left q2
    refine pt_ck (fun _ _ _ => pt_nm (fun v1 e1 => ?_))
    rw [p7 (182 + 6 * b + 5) _ (by omega) (by omega) (by omega), show p.toNatClampNeg = p.toInt.toNat by omega] at e1
    rw [← e1] at q1
    have n1 := i32_nat (i := v1) (by omega)
    have ev : v1.toNatClampNeg = ((x + (D + d)) % 1000).toNat := by omega
    refine pt_ck (fun _ _ _ => pt_nm (fun v2 e2 => ?_))
    rw [p7 (182 + 6 * b + 4) _ (by omega) (by omega) (by omega), ev] at e2
    rw [← e2] at o0
    refine pt_bi (c_is (by rw [p4]; exact p5) (by rw [p4]; exact p6) o0.1 o0.2.1) (fun r3 h3 => ?_)
    rw [p4] at h3
    refine pt_if (fun c => ?_) (fun c => ?_)
    · have b6 := (h3.resolve_left (fun w => absurd (w.1.symm.trans c) (by decide))).2
      refine pt_ck (fun _ _ _ => pt_nm (fun v8 e8 => ?_))
      rw [p7 (182 + 6 * b + 4) _ (by omega) (by omega) (by omega), ev, ← e2] at e8
      refine pt_bs (c_take (o := v8) c12) (fun r9 σ10 h10 => pt_some ⟨D + d, (x + (D + d)) % 1000, ⟨by have := hW.1.1; omega, rfl, q2, by rw [← e2]; exact b6, fun j j0 jd => ?_⟩, ?_⟩)
      · by_cases w : j < D
        · exact hW.2.2 j j0 w
        · exact Or.inl (q3 j (by omega) jd)
      · have h10 : σ10 = _ := h10
        show σ10 = _
        rw [h10, p4, e8, e2]
    · have b6 := (h3.resolve_right (fun w => absurd w.1 c)).2
      refine pt_bi (c_behind (by omega) (by omega)) (fun r5 h5 => pt_nm (fun v7 e7 => ?_))
      exact ih r5 v7 (D + d + 1) (by rw [e7, i1]; exact hW.go (fun _ w => w) d0 lt q3 (by rw [← e2]; exact b6) q4) (by omega)
theorem FN.uniq {f : Nat → Int32} {s : Int32} {x d r d2 r2 : Int} (h : FN f s x d r) (h2 : FN f s x d2 r2) : r = r2 := by
  obtain ⟨a1, a2, a3, a4, a5⟩ := h
  obtain ⟨b1, b2, b3, b4, b5⟩ := h2
  have e : d = d2 := by
    by_cases c : d < d2
    · rcases b5 d a1 c with w | w
      · exact absurd w (by rw [← a2]; exact a3)
      · rw [← a2, a4] at w; cases w
    · by_cases c2 : d2 < d
      · rcases a5 d2 b1 c2 with w | w
        · exact absurd w (by rw [← b2]; exact b3)
        · rw [← b2, b4] at w; cases w
      · omega
  omega
theorem jumps_lp {σ0 ρ0 : S2} (hP : PT b t σ0 ρ0) (hw : σ0.1 (182 + 6 * b) 4 = 2) (m0 : 0 ≤ m.toInt) (m1 : m.toInt ≤ 999) : ∀ (N M : Nat) (σ ρ : S2) (s j x4 : Int32) (a c : Unit × S2), PS σ0 ρ0 σ ρ s → SB b σ0 s → 0 ≤ j.toInt → (σ.1 14 2).toInt = j.toInt → x4.toInt = (m.toInt + 333 * j.toInt) % 1000 → fX1_pickByJumps_2 τ b N σ m j = some a → fX12_pick_10 M ρ t m s x4 = some c → ∃ s2 : Int32, PS σ0 ρ0 a.2 c.2 s2 ∧ SB b σ0 s2 := by
  have z1 := i_1
  have z12 := i_12
  have z333 : (333 : Int32).toInt = 333 := rfl
  have z1000 : (1000 : Int32).toInt = 1000 := rfl
  intro N
  induction N with
  | zero => intro M σ ρ s j x4 a c _ _ _ _ _ h; cases h
  | succ N ih =>
    intro M σ ρ s j x4 a c hS hB j0 hj hx h h2
    obtain ⟨p1, p2, p3, p4, ⟨p5, p6⟩, p7, p8⟩ := id hS
    by_cases c2 : s = σ0.1 (182 + 6 * b) 0
    · have e : a.2 = σ := by
        unfold fX1_pickByJumps_2 at h
        by_cases c1 : 12 ≤ j
        · rw [if_pos c1] at h; cases h; rfl
        · rw [if_neg c1, p4, p7 _ 0 (show 182 + 6 * b ≠ 14 by omega) (by omega) (by omega), if_pos c2] at h; cases h; rfl
      rw [e, m_done hP hS c2 h2]
      exact ⟨s, hS, hB⟩
    cases M with
    | zero => cases h2
    | succ M =>
      -- there is one left: the walk from x4 on meets it
      have ex : ∃ d r : Int, FN (σ0.1 (182 + 6 * b + 4)) s x4.toInt d r := by
        obtain ⟨_, _, _, _, ⟨t0, t1⟩, hO, hA, _, _⟩ := hP
        have left : ∃ k : Nat, k < 12 ∧ (σ0.1 (182 + 6 * b) 0).toInt.toNat.testBit k = true ∧ s.toInt.toNat.testBit k = false := by
          by_cases c : ∃ k : Nat, k < 12 ∧ (σ0.1 (182 + 6 * b) 0).toInt.toNat.testBit k = true ∧ s.toInt.toNat.testBit k = false
          · exact c
          · refine absurd (set_eq p5 t0 p6 t1 (fun k hk => ?_)) c2
            cases q : (σ0.1 (182 + 6 * b) 0).toInt.toNat.testBit k
            · cases q2 : s.toInt.toNat.testBit k
              · rfl
              · exact absurd (hB k q2) (by rw [q]; decide)
            · cases q2 : s.toInt.toNat.testBit k
              · exact absurd ⟨k, hk, q, q2⟩ c
              · rfl
        obtain ⟨k, hk, ka, kb⟩ := left
        obtain ⟨p, hp, hk2⟩ := hA k hk ka
        have y1 := i_m1
        obtain ⟨d, e1, e2, e3⟩ := ff_min (f := fun q => if σ0.1 (182 + 6 * b + 4) q ≠ -1 ∧ s.toInt.toNat.testBit (σ0.1 (182 + 6 * b + 4) q).toInt.toNat = false then (-1 : Int32) else 0) (x := x4.toInt) 999 ⟨(((p : Int) - x4.toInt) % 1000).toNat, by omega, by
          rw [show ((x4.toInt + ((((p : Int) - x4.toInt) % 1000).toNat : Int)) % 1000).toNat = p by omega]
          exact if_pos ⟨fun w => by rw [w, y1] at hk2; omega, by rw [hk2]; exact kb⟩⟩
        have g : ∀ q : Nat, (if σ0.1 (182 + 6 * b + 4) q ≠ -1 ∧ s.toInt.toNat.testBit (σ0.1 (182 + 6 * b + 4) q).toInt.toNat = false then (-1 : Int32) else 0) = -1 → σ0.1 (182 + 6 * b + 4) q ≠ -1 ∧ s.toInt.toNat.testBit (σ0.1 (182 + 6 * b + 4) q).toInt.toNat = false := fun q w => by
          by_cases c : σ0.1 (182 + 6 * b + 4) q ≠ -1 ∧ s.toInt.toNat.testBit (σ0.1 (182 + 6 * b + 4) q).toInt.toNat = false
          · exact c
          · rw [if_neg c] at w; exact absurd w (by decide)
        have e2 := g _ e2
        refine ⟨d, (x4.toInt + d) % 1000, by omega, rfl, e2.1, e2.2, fun j j0 jd => ?_⟩
        have w := e3 j.toNat (by omega)
        rw [show ((j.toNat : Nat) : Int) = j by omega] at w
        by_cases c : σ0.1 (182 + 6 * b + 4) ((x4.toInt + j) % 1000).toNat = -1
        · exact Or.inl c
        · right
          cases q : s.toInt.toNat.testBit (σ0.1 (182 + 6 * b + 4) ((x4.toInt + j) % 1000).toNat).toInt.toNat
          · exact absurd (if_pos ⟨c, q⟩) w
          · rfl
      obtain ⟨d, r, hF⟩ := ex
      obtain ⟨c12, y, ey, h2⟩ := m_step (Q := fun c => (σ.1 14 2).toInt < 12 ∧ ∃ y : Int32, y.toInt = (x4.toInt + 333) % 1000 ∧ fX12_pick_10 M (ux_wI (ux_wI ρ 35 (ρ.1 0 53).toNatClampNeg (σ0.1 (182 + 6 * b + 4) r.toNat)) 0 53 (ρ.1 0 53 + 1)) t m (s ||| (1 <<< (σ0.1 (182 + 6 * b + 4) r.toNat &&& 31))) y = some c) hP hS c2 (by rw [hw]; decide) (by omega) (by omega) hF (fun l y y1 _ c hc => ⟨l, y, y1 hw, hc⟩) _ h2
      unfold fX1_pickByJumps_2 at h
      rw [if_neg (fun w => by have := Int32.le_iff_toInt_le.mp w; omega), p4, p7 _ 0 (show 182 + 6 * b ≠ 14 by omega) (by omega) (by omega), if_neg c2] at h
      unfold dz at h
      rw [if_neg (by decide)] at h
      obtain ⟨u5, σ5, f5, h⟩ := bsS h
      have e333 : (333 * j).toInt = 333 * j.toInt := i32_mulL z333 (by omega) (by omega)
      have ea : (m + 333 * j).toInt = m.toInt + 333 * j.toInt := by rw [i32_add (by omega) (by omega), e333]
      have em : ((m + 333 * j) - (m + 333 * j) / 1000 * 1000).toInt = x4.toInt := by rw [i32_rem z1000 (by omega) (by omega), ea, hx]
      unfold fX1_pickFirstFrom fX1_pickFirstFrom_0 at f5
      obtain ⟨d2, r2, hF2, e5⟩ := first_from (x := x4.toInt) hP hS hB c2 (by omega) (by omega) c12 FU _ 0 0 ⟨⟨by decide, by decide⟩, rfl, fun j j0 jd => by exfalso; omega⟩ (by rw [em]; omega) _ f5
      have e5 : σ5 = _ := e5
      rw [← hF.uniq hF2] at e5
      have o0 := (hP.2.2.2.2.2.1 r.toNat (by have := hF.2.1; omega)).resolve_left hF.2.2.1
      have hS2 := hS.put o0.1 o0.2.1 c12
      rw [← e5] at hS2
      have ob := or_bit (x := s) (v := σ0.1 (182 + 6 * b + 4) r.toNat) (k := (σ0.1 (182 + 6 * b + 4) r.toNat).toInt.toNat) p5 (by omega) (by omega)
      have j1 : (j + 1).toInt = j.toInt + 1 := by rw [i32_add (by omega) (by omega)]; omega
      have c5 : (σ5.1 14 2).toInt = (j + 1).toInt := by
        rw [e5, wI_i _ _ _ (by decide), wI_eq, i32_add (by omega) (by omega), hj, j1]; omega
      have h : fX1_pickByJumps_2 τ b N σ5 m (j + 1) = some a := h
      refine ih M σ5 _ _ (j + 1) y a c hS2 (fun k hk => ?_) (by omega) c5 (by omega) h h2
      rw [ob.2] at hk
      cases w : s.toInt.toNat.testBit k
      · rw [w] at hk
        have : k = (σ0.1 (182 + 6 * b + 4) r.toNat).toInt.toNat := by simpa using hk
        rw [this]; exact o0.2.2
      · exact hB k w
end JUMPS
