/-! the law's parts: workOut against reads -/
def PC (t : Int32) (σ ρ : S2) : Prop := ρ.1 10 t.toNatClampNeg = σ.1 182 2 ∧ ρ.1 11 t.toNatClampNeg = σ.1 182 3 ∧ ρ.1 12 t.toNatClampNeg = σ.1 182 4
section PARTS
variable {σ ρ σ' ρ' : S2} {τ : Nat} {t : Int32}
theorem held_eq {x r q : Int32} (h : fX3_heldWithin τ σ x = some r) (h2 : fX12_held ρ x = some q) : r = q := by
  unfold fX3_heldWithin fX3_heldWithin_0 at h
  unfold fX12_held fX12_held_0 at h2
  have z1 := i_1
  have z4 := i_4
  cases h
  by_cases c1 : 1 ≤ x
  · rw [if_pos c1] at h2
    have c1 := Int32.le_iff_toInt_le.mp c1
    by_cases c2 : x ≤ 4
    · rw [if_pos c2] at h2
      cases h2
      have c2 := Int32.le_iff_toInt_le.mp c2
      by_cases c3 : x < 4
      · rw [if_pos c3]
        by_cases c4 : 1 < x
        · rw [if_pos c4]
        · rw [if_neg c4]
          have : ¬ (1 : Int32).toInt < x.toInt := fun w => c4 (Int32.lt_iff_toInt_lt.mpr w)
          exact Int32.toInt_inj.mp (by omega)
      · rw [if_neg c3, if_pos (by decide)]
        have : ¬ x.toInt < (4 : Int32).toInt := fun w => c3 (Int32.lt_iff_toInt_lt.mpr w)
        exact Int32.toInt_inj.mp (by omega)
    · rw [if_neg c2] at h2
      cases h2
      have c2' : ¬ x.toInt ≤ (4 : Int32).toInt := fun w => c2 (Int32.le_iff_toInt_le.mpr w)
      rw [if_neg (show ¬ x < 4 from fun w => by have := Int32.lt_iff_toInt_lt.mp w; omega), if_pos (by decide)]
  · rw [if_neg c1] at h2
    cases h2
    have c1' : ¬ (1 : Int32).toInt ≤ x.toInt := fun w => c1 (Int32.le_iff_toInt_le.mpr w)
    rw [if_pos (c := x < 4) (Int32.lt_iff_toInt_lt.mpr (by omega)), if_neg (fun w => by have := Int32.lt_iff_toInt_lt.mp w; omega)]
/-- the reference once faulty: nothing more is read, the place is the answer -/
theorem ref_f {M : Nat} {v q : Int32} (h47 : ρ.1 0 47 ≠ 0) (h : fX12_reads_275 (fX12_reads_45 M) ρ t v = some (q, ρ')) : q = ρ'.1 0 45 := by
  unfold fX12_reads_275 at h
  rw [if_neg h47] at h
  unfold fX12_reads_295 fX12_reads_296 at h
  rw [if_pos rfl] at h
  unfold fX12_reads_311 at h
  have h : fX12_reads_45 M (ux_wI ρ 0 45 (ρ.1 0 45 + 0)) t v 0 = some (q, ρ') := h
  cases M with
  | zero => cases h
  | succ M =>
    unfold fX12_reads_45 fX12_reads_338 at h
    rw [if_pos rfl] at h
    have k : ¬ (ux_wI ρ 0 45 (ρ.1 0 45 + 0)).1 0 47 = 0 := h47
    rw [if_neg k] at h
    cases h; rfl
theorem zf_1 {β : Type} {K : Option β} {z : β} {v : Int32} (h : zf v K = some z) : K = some z := (zfS h).2
theorem eats_f {ρ ρ' : S2} {c : Int32} {u : Unit} (h47 : ρ.1 0 47 ≠ 0) (h : fX12_eats ρ c = some (u, ρ')) : ρ' = ux_wI ρ 0 47 1 := by
  unfold fX12_eats fX12_eats_0 fX12_eats_28 at h
  rw [if_neg h47] at h
  have h : some ((), ux_wI ρ 0 47 1) = some (u, ρ') := h
  cases h; rfl
/-- a part that can't stand there: the reference comes out faulty -/
theorem bad_part {M : Nat} {v c s q : Int32} (h : fX12_reads_104 (fX12_reads_45 M) ρ t v c s = some (q, ρ')) : q = ρ'.1 0 45 := by
  unfold fX12_reads_104 fX12_reads_109 at h
  have h := zf_1 h
  dsimp only [nm] at h
  obtain ⟨u1, t1, e1, h⟩ := bsS h
  have f1 := eats_f (show (1 : Int32) ≠ 0 by decide) e1
  obtain ⟨u2, t2, e2, h⟩ := bsS h
  have k1 : t1.1 0 47 ≠ 0 := by rw [f1]; show (1 : Int32) ≠ 0; decide
  have f2 := eats_f k1 e2
  have k2 : t2.1 0 47 ≠ 0 := by rw [f2]; show (1 : Int32) ≠ 0; decide
  by_cases c4 : s = 4
  · rw [if_pos c4, if_neg k2] at h
    unfold fX12_reads_157 fX12_reads_162 at h
    have h := zf_1 h
    dsimp only [nm] at h
    rw [if_neg (show ¬ (ux_wI t2 0 47 1).1 0 47 = 0 from fun w => absurd w (show ¬ (1 : Int32) = 0 by decide))] at h
    unfold fX12_reads_188 at h
    obtain ⟨_, h⟩ := ckS h
    dsimp only [nm] at h
    rw [if_neg (show ¬ (ux_wI (ux_wI t2 0 47 1) 12 t.toNatClampNeg 0).1 0 47 = 0 from fun w => absurd w (show ¬ (1 : Int32) = 0 by decide))] at h
    unfold fX12_reads_206 at h
    refine ref_f ?_ h
    show (1 : Int32) ≠ 0
    decide
  · rw [if_neg c4, if_neg k2] at h
    exact ref_f k2 h
theorem sign_rng {r : Int32} (h : fX3_sign τ σ = some r) : -1 ≤ r.toInt ∧ r.toInt ≤ 255 := by
  have z255 : (255 : Int32).toInt = 255 := rfl
  have m1 : (-1 : Int) ≤ (-1 : Int32).toInt ∧ (-1 : Int32).toInt ≤ 255 := by decide
  unfold fX3_sign fX3_sign_0 at h
  have key : Pt (fun r : Int32 => -1 ≤ r.toInt ∧ r.toInt ≤ 255) (if (σ.1 13 2) < 0 then some ((-1)) else if (σ.1 13 1) ≤ (σ.1 13 2) then some ((-1)) else if (Int32.ofNat (if σ.1 13 0 = 0 then 0 else 80)) ≤ (σ.1 13 2) then some ((-1)) else ck (if σ.1 13 0 = 0 then 0 else 80) (σ.1 13 2) (nm (σ.1 (if σ.1 13 0 = 0 then 43 else 185) (Int32.toNatClampNeg (σ.1 13 2))) (fun v1 => some (v1 &&& 255)))) := by
    refine pt_if (fun _ => pt_some m1) (fun _ => pt_if (fun _ => pt_some m1) (fun _ => pt_if (fun _ => pt_some m1) (fun _ => pt_ck (fun _ _ _ => pt_nm (fun v _ => pt_some ?_)))))
    have := i32_andR (a := v) (m := 255) (by decide)
    exact ⟨by omega, by omega⟩
  exact key r h
/-- the reference goes on faulty behind a bad way -/
theorem p157 {k45 : S2 → Int32 → Int32 → Int32 → Option (Int32 × S2)} {v : Int32} {z : Int32 × S2} (h : fX12_reads_157 k45 ρ t v = some z) : ∃ ρ4 : S2, fX12_reads_275 k45 ρ4 t v = some z ∧ (∀ σ : S2, PB t σ ρ → PB t σ ρ4) ∧ ρ4.1 0 47 ≠ 0 := by
  unfold fX12_reads_157 fX12_reads_162 at h
  have h := zf_1 h
  dsimp only [nm] at h
  rw [if_neg (show ¬ (ux_wI ρ 0 47 1).1 0 47 = 0 from fun w => absurd w (show ¬ (1 : Int32) = 0 by decide))] at h
  unfold fX12_reads_188 at h
  obtain ⟨_, h⟩ := ckS h
  dsimp only [nm] at h
  rw [if_neg (show ¬ (ux_wI (ux_wI ρ 0 47 1) 12 t.toNatClampNeg 0).1 0 47 = 0 from fun w => absurd w (show ¬ (1 : Int32) = 0 by decide))] at h
  unfold fX12_reads_206 at h
  exact ⟨_, h, fun σ hB => hB, show (1 : Int32) ≠ 0 by decide⟩
/-- what one part leaves -/
def PO (t x2 : Int32) (a0 : Int) (r v : Int32) (σ ρ : S2) : Prop := PB t σ ρ ∧ ((PN 0 σ ρ ∧ PC t σ ρ ∧ v = x2 ||| r ∧ a0 < (σ.1 13 2).toInt ∧ (r = 1 ∨ r = 2 ∨ r = 4) ∧ x2 &&& r = 0) ∨ PF σ ρ)
theorem part_rest {σ2 ρ2 : S2} {k45 : S2 → Int32 → Int32 → Int32 → Option (Int32 × S2)} {x2 c s r q : Int32} {a0 : Int} (hB2 : PB t σ2 ρ2) (hN2 : PN 0 σ2 ρ2) (hC2 : PC t σ2 ρ2) (ha : a0 < (σ2.1 13 2).toInt) (hc : (s = 1 ∧ c = 99) ∨ (s = 2 ∧ c = 115) ∨ (s = 4 ∧ c = 112)) (hx : x2 &&& s = 0)
    (h : (if c = 99 then bs (fX3_readSum τ σ2 0) (fun r16 σ17 => bi (fX3_heldWithin τ σ17 r16) (fun r19 => nm (ux_wI σ17 182 2 r19) (fun σ21 => some (s, σ21)))) else if c = 115 then bs (fX3_readSum τ σ2 0) (fun r10 σ11 => bi (fX3_heldWithin τ σ11 r10) (fun r13 => nm (ux_wI σ11 182 3 r13) (fun σ15 => some (s, σ15)))) else bs (fX3_readWay τ σ2) (fun r6 σ7 => nm (ux_wI σ7 182 4 r6) (fun σ9 => some (s, σ9)))) = some (r, σ'))
    (h2 : (if s = 4 then if (ρ2.1 0 47) = 0 then bi (fX12_here ρ2) (fun r28 => bi (fX12_in ρ2 r28 48 50) (fun r30 => if r30 = 0 then fX12_reads_157 k45 ρ2 t (x2 ||| s) else fX12_reads_162 k45 ρ2 t (x2 ||| s) 0)) else fX12_reads_157 k45 ρ2 t (x2 ||| s) else if (ρ2.1 0 47) = 0 then bs (fX12_sum ρ2) (fun r22 σ23 => bi (fX12_held σ23 r22) (fun r25 => if s = 1 then fX12_reads_251 k45 σ23 t (x2 ||| s) s r25 r25 t else ck 11 t (nm (σ23.1 10 (Int32.toNatClampNeg t)) (fun v27 => fX12_reads_251 k45 σ23 t (x2 ||| s) s r25 v27 t)))) else fX12_reads_275 k45 ρ2 t (x2 ||| s)) = some (q, ρ')) : ∃ (ρ4 : S2) (v : Int32), fX12_reads_275 k45 ρ4 t v = some (q, ρ') ∧ PO t x2 a0 r v σ' ρ4 := by
  have z0 := i_0
  rcases hc with ⟨w1, w2⟩ | ⟨w1, w2⟩ | ⟨w1, w2⟩
  · -- copies
    subst w1; subst w2
    rw [if_pos rfl] at h
    rw [if_neg (by decide), if_pos hN2.2.1] at h2
    obtain ⟨v5, σ5, k5, h⟩ := bsS h
    obtain ⟨v6, ρ5, k6, h2⟩ := bsS h2
    obtain ⟨hB3, hr⟩ := sum_eq hB2 hN2 k5 k6
    obtain ⟨v7, k7, h⟩ := biS h
    obtain ⟨v8, k8, h2⟩ := biS h2
    have h : some ((1 : Int32), ux_wI σ5 182 2 v7) = some (r, σ') := h
    rw [if_pos rfl] at h2
    unfold fX12_reads_251 at h2
    obtain ⟨_, h2⟩ := ckS h2
    dsimp only [nm] at h2
    rw [if_neg (show ¬ (1 : Int32) = 2 by decide)] at h2
    obtain ⟨_, h2⟩ := ckS h2
    have h2 : fX12_reads_274 k45 (ux_wI ρ5 10 t.toNatClampNeg v8) t (x2 ||| 1) (ρ5.1 11 t.toNatClampNeg) t = some (q, ρ') := h2
    unfold fX12_reads_274 at h2
    obtain ⟨_, h2⟩ := ckS h2
    cases h
    refine ⟨_, _, h2, hB3, ?_⟩
    rcases hr with ⟨ev, hn, hm⟩ | hf
    · subst ev
      have ev2 := held_eq k7 k8
      have fs := wfX3_readSum (m := 1) rfl τ σ2 0 (Fr.rf σ2) _ k5
      have fr := wfX12_sum (m := 1) rfl ρ2 (Fr.rf ρ2) _ k6
      have q5 : PC t σ5 ρ5 := ⟨by rw [fr.at 10 _ 9 rfl rfl, fs.at 182 2 23 rfl rfl]; exact hC2.1, by rw [fr.at 11 _ 9 rfl rfl, fs.at 182 3 23 rfl rfl]; exact hC2.2.1, by rw [fr.at 12 _ 9 rfl rfl, fs.at 182 4 23 rfl rfl]; exact hC2.2.2⟩
      refine Or.inl ⟨hn, ⟨?_, ?_, ?_⟩, rfl, (by show a0 < (σ5.1 13 2).toInt; omega), Or.inl rfl, hx⟩
      · show (if t.toNatClampNeg = t.toNatClampNeg then v8 else _) = v7
        rw [if_pos rfl, ev2]
      · show (if t.toNatClampNeg = t.toNatClampNeg then ρ5.1 11 t.toNatClampNeg else _) = _
        rw [if_pos rfl]; exact q5.2.1
      · exact q5.2.2
    · exact Or.inr hf
  · -- streets
    subst w1; subst w2
    rw [if_neg (by decide), if_pos rfl] at h
    rw [if_neg (by decide), if_pos hN2.2.1] at h2
    obtain ⟨v5, σ5, k5, h⟩ := bsS h
    obtain ⟨v6, ρ5, k6, h2⟩ := bsS h2
    obtain ⟨hB3, hr⟩ := sum_eq hB2 hN2 k5 k6
    obtain ⟨v7, k7, h⟩ := biS h
    obtain ⟨v8, k8, h2⟩ := biS h2
    have h : some ((2 : Int32), ux_wI σ5 182 3 v7) = some (r, σ') := h
    rw [if_neg (by decide)] at h2
    obtain ⟨_, h2⟩ := ckS h2
    have h2 : fX12_reads_251 k45 ρ5 t (x2 ||| 2) 2 v8 (ρ5.1 10 t.toNatClampNeg) t = some (q, ρ') := h2
    unfold fX12_reads_251 at h2
    obtain ⟨_, h2⟩ := ckS h2
    dsimp only [nm] at h2
    rw [if_pos (show (2 : Int32) = 2 from rfl)] at h2
    unfold fX12_reads_274 at h2
    obtain ⟨_, h2⟩ := ckS h2
    cases h
    refine ⟨_, _, h2, hB3, ?_⟩
    rcases hr with ⟨ev, hn, hm⟩ | hf
    · subst ev
      have ev2 := held_eq k7 k8
      have fs := wfX3_readSum (m := 1) rfl τ σ2 0 (Fr.rf σ2) _ k5
      have fr := wfX12_sum (m := 1) rfl ρ2 (Fr.rf ρ2) _ k6
      have q5 : PC t σ5 ρ5 := ⟨by rw [fr.at 10 _ 9 rfl rfl, fs.at 182 2 23 rfl rfl]; exact hC2.1, by rw [fr.at 11 _ 9 rfl rfl, fs.at 182 3 23 rfl rfl]; exact hC2.2.1, by rw [fr.at 12 _ 9 rfl rfl, fs.at 182 4 23 rfl rfl]; exact hC2.2.2⟩
      refine Or.inl ⟨hn, ⟨?_, ?_, ?_⟩, rfl, (by show a0 < (σ5.1 13 2).toInt; omega), Or.inr (Or.inl rfl), hx⟩
      · show (if t.toNatClampNeg = t.toNatClampNeg then ρ5.1 10 t.toNatClampNeg else _) = _
        rw [if_pos rfl]; exact q5.1
      · show (if t.toNatClampNeg = t.toNatClampNeg then v8 else _) = v7
        rw [if_pos rfl, ev2]
      · exact q5.2.2
    · exact Or.inr hf
  · -- the way
    subst w1; subst w2
    rw [if_neg (by decide), if_neg (by decide)] at h
    rw [if_pos rfl, if_pos hN2.2.1] at h2
    obtain ⟨v5, σ5, k5, h⟩ := bsS h
    have h : some ((4 : Int32), ux_wI σ5 182 4 v5) = some (r, σ') := h
    cases h
    unfold fX3_readWay fX3_readWay_0 fX3_readWay_17 at k5
    obtain ⟨s5, f5, k5⟩ := biS k5
    obtain ⟨s6, f6, h2⟩ := biS h2
    obtain ⟨es, lt3⟩ := sign_eq hB2 hN2 f5 f6
    subst es
    have rg := sign_rng f5
    obtain ⟨r30, f30, h2⟩ := biS h2
    have f30 := q_in _ f30
    have e48 : (48 : Int32).toInt = 48 := rfl
    have e50 : (50 : Int32).toInt = 50 := rfl
    have e2i := i_2
    have es5 : (s5 - 48).toInt = s5.toInt - 48 := by rw [i32_sub (by omega) (by omega)]; omega
    have k5 : (if s5 - 48 < 0 then some ((0 : Int32), ux_wI σ2 13 3 (σ2.1 13 2)) else if s5 - 48 ≤ 2 then some (s5 - 48, ux_wI σ2 13 2 (σ2.1 13 2 + 1)) else some ((0 : Int32), ux_wI σ2 13 3 (σ2.1 13 2))) = some (v5, σ5) := k5
    have bad : r30 = 0 → some ((0 : Int32), ux_wI σ2 13 3 (σ2.1 13 2)) = some (v5, σ5) → ∃ (ρ4 : S2) (v : Int32), fX12_reads_275 k45 ρ4 t v = some (q, ρ') ∧ PO t x2 a0 4 v (ux_wI σ5 182 4 v5) ρ4 := fun c0 g => by
      rw [if_pos c0] at h2
      obtain ⟨ρ4, g2, g3, g4⟩ := p157 h2
      have := pf_mk hB2 hN2 (b := 1) (by decide)
      cases g
      exact ⟨ρ4, _, g2, g3 _ hB2, Or.inr ⟨this.2.1, g4⟩⟩
    by_cases c6 : s5 - 48 < 0
    · rw [if_pos c6] at k5
      have c6 := Int32.lt_iff_toInt_lt.mp c6
      exact bad (Int32.toInt_inj.mp (by rw [z0]; omega)) k5
    rw [if_neg c6] at k5
    have c6' : ¬ (s5 - 48).toInt < (0 : Int32).toInt := fun w => c6 (Int32.lt_iff_toInt_lt.mpr w)
    by_cases c7 : s5 - 48 ≤ 2
    · rw [if_pos c7] at k5
      have c7 := Int32.le_iff_toInt_le.mp c7
      rw [if_neg (fun w => by rw [w] at f30; omega)] at h2
      unfold fX12_reads_162 at h2
      have h2 := zf_1 h2
      dsimp only [nm] at h2
      rw [if_pos (show (ux_wI ρ2 0 47 0).1 0 47 = 0 from rfl)] at h2
      obtain ⟨s7, f7, h2⟩ := biS h2
      have f7 : fX12_here ρ2 = some s7 := f7
      rw [f6] at f7; cases f7
      unfold fX12_reads_188 at h2
      obtain ⟨_, h2⟩ := ckS h2
      dsimp only [nm] at h2
      rw [if_pos (show (ux_wI (ux_wI ρ2 0 47 0) 12 t.toNatClampNeg (s5 - 48)).1 0 47 = 0 from rfl)] at h2
      unfold fX12_reads_206 at h2
      have h2 : fX12_reads_275 k45 (ux_wI (ux_wI (ux_wI ρ2 0 47 0) 12 t.toNatClampNeg (s5 - 48)) 0 45 (ρ2.1 0 45 + 1)) t (x2 ||| 4) = some (q, ρ') := h2
      have ns : s5 ≠ -1 := fun w => by
        have e9 : s5.toInt = -1 := by rw [w]; rfl
        omega
      obtain ⟨hN3, ea3⟩ := hN2.step hB2 (lt3 ns)
      cases k5
      refine ⟨_, _, h2, hB2, Or.inl ⟨⟨hN3.1, rfl, hN3.2.2⟩, ⟨hC2.1, hC2.2.1, ?_⟩, rfl, ?_, Or.inr (Or.inr rfl), hx⟩⟩
      · show (if t.toNatClampNeg = t.toNatClampNeg then s5 - 48 else _) = s5 - 48
        rw [if_pos rfl]
      · show _ < ((ux_wI σ2 13 2 (σ2.1 13 2 + 1)).1 13 2).toInt
        omega
    · rw [if_neg c7] at k5
      have c7' : ¬ (s5 - 48).toInt ≤ (2 : Int32).toInt := fun w => c7 (Int32.le_iff_toInt_le.mpr w)
      exact bad (Int32.toInt_inj.mp (by rw [z0]; omega)) k5
theorem part_eq {k45 : S2 → Int32 → Int32 → Int32 → Option (Int32 × S2)} {x2 c s r q : Int32} (hB : PB t σ ρ) (hN : PN 0 σ ρ) (hC : PC t σ ρ) (hs : fX12_here ρ = some c) (lt : c ≠ -1 → (σ.1 13 2).toInt < (σ.1 13 1).toInt) (hc : (s = 1 ∧ c = 99) ∨ (s = 2 ∧ c = 115) ∨ (s = 4 ∧ c = 112)) (hx : x2 &&& s = 0) (h : fX3_readPart_36 τ σ x2 c s = some (r, σ')) (h2 : fX12_reads_109 k45 ρ t x2 c s 0 = some (q, ρ')) : ∃ (ρ4 : S2) (v : Int32), fX12_reads_275 k45 ρ4 t v = some (q, ρ') ∧ PO t x2 (σ.1 13 2).toInt r v σ' ρ4 := by
  have z0 := i_0
  have s0 : s ≠ 0 := by rcases hc with w | w | w <;> (rw [w.1]; decide)
  have cn : c ≠ -1 := by rcases hc with w | w | w <;> (rw [w.2]; decide)
  unfold fX3_readPart_36 at h
  unfold fX12_reads_109 at h2
  rw [if_neg s0, if_pos hx] at h
  have h2 := zf_1 h2
  dsimp only [nm] at h2
  obtain ⟨u1, t1, e1, h2⟩ := bsS h2
  -- the letter is eaten
  have hN0 : PN 0 σ (ux_wI ρ 0 47 0) := ⟨hN.1, rfl, hN.2.2⟩
  have hs0 : fX12_here (ux_wI ρ 0 47 0) = some c := hs
  have et1 : t1 = ux_wI (ux_wI ρ 0 47 0) 0 45 (ρ.1 0 45 + 1) := by
    unfold fX12_eats fX12_eats_0 at e1
    have k : (ux_wI ρ 0 47 0).1 0 47 = 0 := rfl
    rw [if_pos k] at e1
    obtain ⟨s9, f9, e1⟩ := biS e1
    rw [hs0] at f9; cases f9
    rw [if_pos rfl] at e1
    have e1 : some ((), ux_wI (ux_wI ρ 0 47 0) 0 45 (ρ.1 0 45 + 1)) = some (u1, t1) := e1
    cases e1; rfl
  obtain ⟨hN1, ea1⟩ := hN0.step hB (lt cn)
  have hN1 : PN 0 (ux_wI σ 13 2 (σ.1 13 2 + 1)) (ux_wI (ux_wI ρ 0 47 0) 0 45 (ρ.1 0 45 + 1)) := hN1
  subst et1
  dsimp only [nm] at h
  obtain ⟨s3, f3, h⟩ := biS h
  obtain ⟨u2, t2, e2, h2⟩ := bsS h2
  unfold fX12_eats fX12_eats_0 fX12_eats_28 at e2
  rw [if_pos hN1.2.1] at e2
  obtain ⟨s4, f4, e2⟩ := biS e2
  have hB1 : PB t (ux_wI σ 13 2 (σ.1 13 2 + 1)) (ux_wI (ux_wI ρ 0 47 0) 0 45 (ρ.1 0 45 + 1)) := hB
  obtain ⟨es, lt2⟩ := sign_eq hB1 hN1 f3 f4
  subst es
  have hC1 : PC t (ux_wI σ 13 2 (σ.1 13 2 + 1)) (ux_wI (ux_wI ρ 0 47 0) 0 45 (ρ.1 0 45 + 1)) := hC
  by_cases c5 : s3 = 32
  · rw [if_pos c5] at h e2
    have e2 : some ((), ux_wI (ux_wI (ux_wI ρ 0 47 0) 0 45 (ρ.1 0 45 + 1)) 0 45 ((ux_wI (ux_wI ρ 0 47 0) 0 45 (ρ.1 0 45 + 1)).1 0 45 + 1)) = some (u2, t2) := e2
    obtain ⟨hN2, ea2⟩ := hN1.step hB1 (lt2 (by rw [c5]; decide))
    cases e2
    have hB2 : PB t (ux_wI (ux_wI σ 13 2 (σ.1 13 2 + 1)) 13 2 ((ux_wI σ 13 2 (σ.1 13 2 + 1)).1 13 2 + 1)) (ux_wI (ux_wI (ux_wI ρ 0 47 0) 0 45 (ρ.1 0 45 + 1)) 0 45 ((ux_wI (ux_wI ρ 0 47 0) 0 45 (ρ.1 0 45 + 1)).1 0 45 + 1)) := hB1
    have hC2 : PC t (ux_wI (ux_wI σ 13 2 (σ.1 13 2 + 1)) 13 2 ((ux_wI σ 13 2 (σ.1 13 2 + 1)).1 13 2 + 1)) (ux_wI (ux_wI (ux_wI ρ 0 47 0) 0 45 (ρ.1 0 45 + 1)) 0 45 ((ux_wI (ux_wI ρ 0 47 0) 0 45 (ρ.1 0 45 + 1)).1 0 45 + 1)) := hC1
    exact part_rest hB2 hN2 hC2 (by omega) hc hx h h2
  · rw [if_neg c5] at h e2
    have h : some ((0 : Int32), ux_wI (ux_wI σ 13 2 (σ.1 13 2 + 1)) 13 3 ((ux_wI σ 13 2 (σ.1 13 2 + 1)).1 13 2)) = some (r, σ') := h
    have e2 : some ((), ux_wI (ux_wI (ux_wI ρ 0 47 0) 0 45 (ρ.1 0 45 + 1)) 0 47 1) = some (u2, t2) := e2
    have pf := pf_mk hB1 hN1 (b := 1) (by decide)
    cases h; cases e2
    have k1 : ¬ (ux_wI (ux_wI (ux_wI ρ 0 47 0) 0 45 (ρ.1 0 45 + 1)) 0 47 1).1 0 47 = 0 := by show ¬ (1 : Int32) = 0; decide
    by_cases c8 : s = 4
    · rw [if_pos c8, if_neg k1] at h2
      obtain ⟨ρ4, g2, g3, g4⟩ := p157 h2
      exact ⟨ρ4, _, g2, g3 _ pf.1, Or.inr ⟨pf.2.1, g4⟩⟩
    · rw [if_neg c8, if_neg k1] at h2
      exact ⟨_, _, h2, pf.1, Or.inr pf.2⟩
end PARTS
