/-! picking: the walk round the ring, both sides -/
section PICK
variable {τ b : Nat} {t m : Int32}
/-- a bit of a set of keepers -/
theorem bit_1 {a x : Int32} (h0 : 0 ≤ a.toInt) (h1 : a.toInt ≤ 4095) (x0 : 0 ≤ x.toInt) (x1 : x.toInt ≤ 11) : ((a >>> (x &&& 31)) &&& 1 = 1 ↔ a.toInt.toNat.testBit x.toInt.toNat = true) ∧ ((a >>> (x &&& 31)) &&& 1 = 0 ↔ a.toInt.toNat.testBit x.toInt.toNat = false) := by
  have e := bit_sar h0 h1 x0 x1
  have n := i32_nat x0
  rw [show x.toNatClampNeg = x.toInt.toNat by omega] at e
  cases q : a.toInt.toNat.testBit x.toInt.toNat
  · rw [q, if_neg (by decide)] at e
    have e2 : (a >>> (x &&& 31)) &&& 1 = 0 := Int32.toInt_inj.mp (by rw [e]; rfl)
    rw [e2]
    exact ⟨⟨fun w => absurd w (by decide), fun w => by cases w⟩, ⟨fun _ => rfl, fun _ => rfl⟩⟩
  · rw [q, if_pos rfl] at e
    have e2 : (a >>> (x &&& 31)) &&& 1 = 1 := Int32.toInt_inj.mp (by rw [e]; rfl)
    rw [e2]
    exact ⟨⟨fun _ => rfl, fun _ => rfl⟩, ⟨fun w => absurd w (by decide), fun w => by cases w⟩⟩
/-- from x on, d places further, sits the first keeper that is not in the set s -/
noncomputable def FN (f : Nat → Int32) (s : Int32) (x d r : Int) : Prop := 0 ≤ d ∧ r = (x + d) % 1000 ∧ f r.toNat ≠ -1 ∧ s.toInt.toNat.testBit (f r.toNat).toInt.toNat = false ∧ ∀ j : Int, 0 ≤ j → j < d → f ((x + j) % 1000).toNat = -1 ∨ s.toInt.toNat.testBit (f ((x + j) % 1000).toNat).toInt.toNat = true
theorem FN.next {f : Nat → Int32} {s : Int32} {x d r y : Int} (h : FN f s x d r) (hx : 0 ≤ x) (hy : y = (x + 1) % 1000) (hd : d ≠ 0) : FN f s y (d - 1) r := by
  obtain ⟨a, b, c, e, g⟩ := h
  refine ⟨by omega, by omega, c, e, fun j j0 jd => ?_⟩
  have w := g (j + 1) (by omega) (by omega)
  rw [show (y + j) % 1000 = (x + (j + 1)) % 1000 by omega]; exact w
/-- the set-up of a table, on both sides: seats alike, seats' keepers in the set, each of the set with a seat -/
noncomputable def PT (b : Nat) (t : Int32) (σ ρ : S2) : Prop := (0 ≤ t.toInt ∧ t.toInt ≤ 10) ∧ SE b t σ ρ ∧ ρ.1 8 t.toNatClampNeg = σ.1 (182 + 6 * b) 0 ∧ ρ.1 12 t.toNatClampNeg = σ.1 (182 + 6 * b) 4 ∧ (0 ≤ (σ.1 (182 + 6 * b) 0).toInt ∧ (σ.1 (182 + 6 * b) 0).toInt ≤ 4095) ∧ (∀ p : Nat, p < 1000 → σ.1 (182 + 6 * b + 4) p = -1 ∨ (0 ≤ (σ.1 (182 + 6 * b + 4) p).toInt ∧ (σ.1 (182 + 6 * b + 4) p).toInt ≤ 11 ∧ (σ.1 (182 + 6 * b) 0).toInt.toNat.testBit (σ.1 (182 + 6 * b + 4) p).toInt.toNat = true)) ∧ (∀ k : Nat, k < 12 → (σ.1 (182 + 6 * b) 0).toInt.toNat.testBit k = true → ∃ p : Nat, p < 1000 ∧ (σ.1 (182 + 6 * b + 4) p).toInt = (k : Int)) ∧ AH b σ ∧ (σ.1 (182 + 6 * b) 5).toInt = cnS (σ.1 (182 + 6 * b + 4)) 1000
/-- the reference finds the first keeper that is not in the set -/
theorem m_next {Q : Unit × S2 → Prop} {σ ρ : S2} {s : Int32} {r : Int} (hP : PT b t σ ρ) (s0 : 0 ≤ s.toInt) (s1 : s.toInt ≤ 4095) (kx : (ρ.1 0 53).toInt < 12 → 0 ≤ (ρ.1 0 53).toInt → Pt Q (some ((), ux_wI (ux_wI ρ 35 (ρ.1 0 53).toNatClampNeg (σ.1 (182 + 6 * b + 4) r.toNat)) 0 53 (ρ.1 0 53 + 1)))) : ∀ (N : Nat) (x : Int32) (d : Int), 0 ≤ x.toInt → x.toInt ≤ 999 → FN (σ.1 (182 + 6 * b + 4)) s x.toInt d r → Pt Q (fX12_pickNext_3 N ρ t s x) := by
  obtain ⟨⟨t0, t1⟩, hS, _, _, _, hO, _, _, _⟩ := hP
  intro N
  induction N with
  | zero => intro x d _ _ _; exact pt_none
  | succ N ih =>
    intro x d h0 h1 hF
    obtain ⟨d0, er, n1, n2, hj⟩ := id hF
    have ix := seat_ix t0 t1 h0 h1
    have nx := i32_nat h0
    have ex : x.toNatClampNeg = x.toInt.toNat := by omega
    have ev := hS x.toInt.toNat (by omega)
    have step : d ≠ 0 → Pt Q (fX12_pickNext_41 (fX12_pickNext_3 N) ρ t s x) := fun hd => by
      unfold fX12_pickNext_41
      refine pt_dz (fun _ => pt_nm (fun v2 e2 => ?_))
      have n7 := next_ix h0 h1
      rw [← e2] at n7
      exact ih v2 (d - 1) (by omega) (by omega) (hF.next h0 n7 hd)
    unfold fX12_pickNext_3
    refine pt_ck (fun _ _ _ => pt_nm (fun v3 e3 => ?_))
    rw [ix.2.2, ex, ev] at e3
    refine pt_if (fun c => step (fun w => ?_)) (fun c => pt_ck (fun _ _ _ => pt_nm (fun v4 e4 => ?_)))
    · rw [e3, show x.toInt.toNat = r.toNat by omega] at c; exact n1 c
    rw [ix.2.2, ex, ev] at e4
    have ho := (hO x.toInt.toNat (by omega)).resolve_left (by rw [← e3]; exact c)
    have bq := bit_1 (x := v4) s0 s1 (by rw [e4]; exact ho.1) (by rw [e4]; exact ho.2.1)
    refine pt_if (fun c2 => step (fun w => ?_)) (fun c2 => pt_ck (fun _ _ _ => pt_nm (fun v5 e5 => ?_)))
    · have w2 := bq.1.mp c2
      rw [e4, show x.toInt.toNat = r.toNat by omega, n2] at w2; cases w2
    · rw [ix.2.2, ex, ev] at e5
      have dz : d = 0 := by
        by_cases q : d = 0
        · exact q
        · exfalso
          rcases hj 0 (by omega) (by omega) with w | w
          · rw [show ((x.toInt + 0) % 1000).toNat = x.toInt.toNat by omega] at w
            exact c (e3.trans w)
          · rw [show ((x.toInt + 0) % 1000).toNat = x.toInt.toNat by omega, ← e4] at w
            exact c2 (bq.1.mpr w)
      refine pt_ck (fun z0' z1' _ => pt_nm (fun s6 e6 => pt_nm (fun s7 e7 => ?_)))
      rw [e7, e6, e5, show x.toInt.toNat = r.toNat by omega, wI_k _ _ _ _ (by decide)]
      exact kx (by omega) z0'
/-- picks so far, on both sides -/
noncomputable def PS (σ0 ρ0 σ ρ : S2) (s : Int32) : Prop := ρ.1 0 53 = σ.1 14 2 ∧ (0 ≤ (σ.1 14 2).toInt ∧ (σ.1 14 2).toInt ≤ 12) ∧ (∀ j : Nat, (j : Int) < (σ.1 14 2).toInt → ρ.1 35 j = σ.1 15 j ∧ 0 ≤ (σ.1 15 j).toInt ∧ (σ.1 15 j).toInt ≤ 11 ∧ s.toInt.toNat.testBit (σ.1 15 j).toInt.toNat = true) ∧ σ.1 14 6 = s ∧ (0 ≤ s.toInt ∧ s.toInt ≤ 4095) ∧ (∀ k i : Nat, k ≠ 14 → k ≠ 15 → k ≠ 17 → σ.1 k i = σ0.1 k i) ∧ ∀ k i : Nat, ¬ (k = 0 ∧ i = 53) → k ≠ 35 → ρ.1 k i = ρ0.1 k i
/-- one more pick -/
theorem PS.put {σ0 ρ0 σ ρ : S2} {s o : Int32} (h : PS σ0 ρ0 σ ρ s) (o0 : 0 ≤ o.toInt) (o1 : o.toInt ≤ 11) (c12 : (σ.1 14 2).toInt < 12) : PS σ0 ρ0 (ux_wI (ux_wI (ux_wI σ 15 (σ.1 14 2).toNatClampNeg o) 14 2 (σ.1 14 2 + 1)) 14 6 (s ||| (1 <<< (o &&& 31)))) (ux_wI (ux_wI ρ 35 (ρ.1 0 53).toNatClampNeg o) 0 53 (ρ.1 0 53 + 1)) (s ||| (1 <<< (o &&& 31))) := by
  obtain ⟨a, a0, c, d, ⟨s0, s1⟩, e, g⟩ := h
  have z1 := i_1
  have n2 := i32_nat a0.1
  have e1 : (σ.1 14 2 + 1).toInt = (σ.1 14 2).toInt + 1 := by rw [i32_add (by omega) (by omega)]; omega
  have ob := i32_orB (a := s) (b := (1 : Int32) <<< (o &&& 31)) 12 4095 (by decide) (by decide) s0 s1 (by have := i32_shlB (x := o) 11 o0 o1 (by decide); omega) (by have := i32_shlB (x := o) 11 o0 o1 (by decide); omega)
  refine ⟨?_, ?_, fun j hj => ?_, wI_eq _ _ _ _, ob, fun k i h14 h15 h17 => ?_, fun k i h0 h35 => ?_⟩
  · rw [wI_eq, wI_i _ _ _ (by decide), wI_eq, a]
  · rw [wI_i _ _ _ (by decide), wI_eq]; omega
  · rw [wI_i _ _ _ (by decide), wI_eq, e1] at hj
    rw [wI_k (ux_wI ρ 35 (ρ.1 0 53).toNatClampNeg o) 53 j _ (show 35 ≠ 0 by decide), wI_k (ux_wI (ux_wI σ 15 (σ.1 14 2).toNatClampNeg o) 14 2 (σ.1 14 2 + 1)) 6 j _ (show 15 ≠ 14 by decide), wI_k (ux_wI σ 15 (σ.1 14 2).toNatClampNeg o) 2 j _ (show 15 ≠ 14 by decide), a]
    have b2 := or_bit (x := s) (v := o) (k := o.toInt.toNat) s0 (by omega) (by omega)
    by_cases q : j = (σ.1 14 2).toNatClampNeg
    · rw [q, wI_eq, wI_eq, b2.2]
      exact ⟨rfl, o0, o1, by rw [decide_eq_true rfl, Bool.or_true]⟩
    · rw [wI_i _ _ _ q, wI_i _ _ _ q]
      have w := c j (by omega)
      exact ⟨w.1, w.2.1, w.2.2.1, by rw [b2.2, w.2.2.2]; rfl⟩
  · rw [wI_k _ _ _ _ h14, wI_k _ _ _ _ h14, wI_k _ _ _ _ h15]; exact e k i h14 h15 h17
  · have w : (ux_wI ρ 35 (ρ.1 0 53).toNatClampNeg o).1 k i = ρ.1 k i := wI_k _ _ _ _ h35
    by_cases q : k = 0
    · subst q
      rw [wI_i _ _ _ (fun v => h0 ⟨rfl, v⟩), w]; exact g _ i h0 h35
    · rw [wI_k _ _ _ _ q, w]; exact g k i h0 h35
theorem c_take {σ : S2} {o : Int32} (c12 : (σ.1 14 2).toInt < 12) : Pt (fun z : Unit × S2 => z.2 = ux_wI (ux_wI (ux_wI σ 15 (σ.1 14 2).toNatClampNeg o) 14 2 (σ.1 14 2 + 1)) 14 6 (σ.1 14 6 ||| (1 <<< (o &&& 31)))) (fX1_takePick τ σ o) := by
  have z12 := i_12
  unfold fX1_takePick fX1_takePick_0
  refine pt_lt (fun _ => pt_ck (fun _ _ _ => pt_nm (fun s1 e1 => pt_nm (fun s2 e2 => pt_nm (fun s3 e3 => pt_some ?_))))) (fun h => by exfalso; omega)
  have g2 : s1.1 14 2 = σ.1 14 2 := by rw [e1, wI_k _ _ _ _ (by decide)]
  have g6 : s2.1 14 6 = σ.1 14 6 := by rw [e2, wI_i _ _ _ (by decide), e1, wI_k _ _ _ _ (by decide)]
  show s3 = _
  rw [e3, g6, e2, g2, e1]
/-- is the keeper picked yet -/
theorem c_is {σ : S2} {o : Int32} (s0 : 0 ≤ (σ.1 14 6).toInt) (s1 : (σ.1 14 6).toInt ≤ 4095) (o0 : 0 ≤ o.toInt) (o1 : o.toInt ≤ 11) : Pt (fun r => (r = 1 ∧ (σ.1 14 6).toInt.toNat.testBit o.toInt.toNat = true) ∨ (r = 0 ∧ (σ.1 14 6).toInt.toNat.testBit o.toInt.toNat = false)) (fX1_isPicked τ σ o) := by
  have bq := bit_1 s0 s1 o0 o1
  unfold fX1_isPicked fX1_isPicked_0
  refine pt_if (fun c => pt_some (Or.inl ⟨rfl, bq.1.mp c⟩)) (fun c => pt_some (Or.inr ⟨rfl, ?_⟩))
  cases q : (σ.1 14 6).toInt.toNat.testBit o.toInt.toNat
  · rfl
  · exact absurd (bq.1.mpr q) c
/-- one round of the reference's pick, by walking -/
theorem m_step {Q : Unit × S2 → Prop} {σ0 ρ0 σ ρ : S2} {s x4 : Int32} {d r : Int} {M : Nat} (hP : PT b t σ0 ρ0) (hS : PS σ0 ρ0 σ ρ s) (hne : s ≠ σ0.1 (182 + 6 * b) 0) (hw : σ0.1 (182 + 6 * b) 4 ≠ 1) (x0 : 0 ≤ x4.toInt) (x1 : x4.toInt ≤ 999) (hF : FN (σ0.1 (182 + 6 * b + 4)) s x4.toInt d r) (kx : (σ.1 14 2).toInt < 12 → ∀ y : Int32, (σ0.1 (182 + 6 * b) 4 = 2 → y.toInt = (x4.toInt + 333) % 1000) → (σ0.1 (182 + 6 * b) 4 ≠ 2 → y = x4) → Pt Q (fX12_pick_10 M (ux_wI (ux_wI ρ 35 (ρ.1 0 53).toNatClampNeg (σ0.1 (182 + 6 * b + 4) r.toNat)) 0 53 (ρ.1 0 53 + 1)) t m (s ||| (1 <<< (σ0.1 (182 + 6 * b + 4) r.toNat &&& 31))) y)) : Pt Q (fX12_pick_10 (M + 1) ρ t m s x4) := by
  have z333 : (333 : Int32).toInt = 333 := rfl
  have z1000 : (1000 : Int32).toInt = 1000 := rfl
  have z1 := i_1
  obtain ⟨⟨t0, t1⟩, hE, h8, h12, ⟨s0, s1⟩, hO, hA, hH, hc⟩ := id hP
  obtain ⟨p1, p2, p3, p4, ⟨p5, p6⟩, p7, p8⟩ := id hS
  have w8 : ρ.1 8 t.toNatClampNeg = σ0.1 (182 + 6 * b) 0 := (p8 8 _ (fun w => absurd w.1 (by decide)) (by decide)).trans h8
  have w12 : ρ.1 12 t.toNatClampNeg = σ0.1 (182 + 6 * b) 4 := (p8 12 _ (fun w => absurd w.1 (by decide)) (by decide)).trans h12
  have hP2 : PT b t σ0 ρ := ⟨⟨t0, t1⟩, fun p hp => (p8 18 _ (fun w => absurd w.1 (by decide)) (by decide)).trans (hE p hp), w8, w12, ⟨s0, s1⟩, hO, hA, hH, hc⟩
  unfold fX12_pick_10
  refine pt_ck (fun _ _ _ => pt_nm (fun v3 e3 => pt_if (fun c => ?_) (fun _ => pt_ck (fun _ _ _ => pt_nm (fun v4 e4 => pt_if (fun c => ?_) (fun _ => ?_))))))
  · exact absurd (c.trans (e3.trans w8)) hne
  · exact absurd (w12.symm.trans (e4.symm.trans c)) hw
  have nr : 0 ≤ (ρ.1 0 53).toInt := by rw [p1]; exact p2.1
  have n53 := i32_nat nr
  refine pt_bs (P := fun z => (ρ.1 0 53).toInt < 12 ∧ z.2 = ux_wI (ux_wI ρ 35 (ρ.1 0 53).toNatClampNeg (σ0.1 (182 + 6 * b + 4) r.toNat)) 0 53 (ρ.1 0 53 + 1)) ?_ (fun r5 σ6 h6 => ?_)
  · unfold fX12_pickNext fX12_pickNext_0
    exact m_next hP2 p5 p6 (fun a _ => pt_some ⟨a, rfl⟩) FU x4 d x0 x1 hF
  obtain ⟨l12, h6⟩ := h6
  have h6 : σ6 = ux_wI (ux_wI ρ 35 (ρ.1 0 53).toNatClampNeg (σ0.1 (182 + 6 * b + 4) r.toNat)) 0 53 (ρ.1 0 53 + 1) := h6
  have e53 : (ρ.1 0 53 + 1).toInt = (ρ.1 0 53).toInt + 1 := by rw [i32_add (by omega) (by omega)]; omega
  have g53 : σ6.1 0 53 = ρ.1 0 53 + 1 := by rw [h6, wI_eq]
  have g12 : σ6.1 12 t.toNatClampNeg = σ0.1 (182 + 6 * b) 4 := by rw [h6, wI_k _ _ _ _ (by decide), wI_k _ _ _ _ (by decide), w12]
  have em : (σ6.1 0 53 - 1).toInt = (ρ.1 0 53).toInt := by rw [g53, i32_sub (by omega) (by omega)]; omega
  have nm1 := i32_nat (i := σ6.1 0 53 - 1) (by omega)
  have g35 : σ6.1 35 (σ6.1 0 53 - 1).toNatClampNeg = σ0.1 (182 + 6 * b + 4) r.toNat := by
    rw [show (σ6.1 0 53 - 1).toNatClampNeg = (ρ.1 0 53).toNatClampNeg by omega, h6, wI_k _ _ _ _ (by decide), wI_eq]
  have fin : ∀ y : Int32, (σ0.1 (182 + 6 * b) 4 = 2 → y.toInt = (x4.toInt + 333) % 1000) → (σ0.1 (182 + 6 * b) 4 ≠ 2 → y = x4) → Pt Q (fX12_pick_73 (fX12_pick_10 M) σ6 t m s y) := fun y y1 y2 => by
    unfold fX12_pick_73 fX12_pick_75
    refine pt_ck (fun _ _ _ => pt_nm (fun v1 e1 => pt_nm (fun v2 e2 => ?_)))
    rw [e2, e1, g35, h6]
    exact kx (by rw [← p1]; exact l12) y y1 y2
  refine pt_ck (fun _ _ _ => pt_nm (fun v8 e8 => pt_if (fun c => pt_dz (fun _ => fin _ (fun _ => ?_) (fun w => ?_))) (fun c => fin _ (fun w => ?_) (fun _ => rfl))))
  · have e : (x4 + 333).toInt = x4.toInt + 333 := by rw [i32_add (by omega) (by omega)]; omega
    rw [i32_rem z1000 (by omega) (by omega), e]
  · exact absurd (g12.symm.trans (e8.symm.trans c)) w
  · exact absurd (e8.trans (g12.trans w)) c
end PICK
