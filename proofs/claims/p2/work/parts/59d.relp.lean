/-! the law's text: both parsers go the same way -/
theorem div_m1 (x : Int32) : x / (-1) = -x := by
  refine Int32.toInt_inj.mp ?_
  rw [Int32.toInt_div, show (-1 : Int32).toInt = -1 by decide, Int.tdiv_neg, Int.tdiv_one, Int32.toInt_neg]
theorem rem_m1 (x : Int32) : x - x / (-1) * (-1) = 0 := by
  rw [div_m1, Int32.neg_mul_neg, Int32.mul_one, Int32.sub_self]
def PB (t : Int32) (σ ρ : S2) : Prop := σ.1 13 0 = 1 ∧ ρ.1 0 44 = t ∧ (0 ≤ t.toInt ∧ t.toInt ≤ 10) ∧ ρ.1 13 t.toNatClampNeg = σ.1 13 1 ∧ (0 ≤ (σ.1 13 1).toInt ∧ (σ.1 13 1).toInt ≤ 80) ∧ (∀ i : Nat, (i : Int) < (σ.1 13 1).toInt → ρ.1 14 (80 * t.toNatClampNeg + i) = σ.1 185 i &&& 255) ∧ ρ.1 0 48 = σ.1 13 4 ∧ ρ.1 0 49 = σ.1 13 5 ∧ ρ.1 0 50 = σ.1 13 6 ∧ ρ.1 0 51 = σ.1 13 7
/-- no fault yet -/
def PN (x1 : Int32) (σ ρ : S2) : Prop := σ.1 13 3 = -1 ∧ ρ.1 0 47 = 0 ∧ ρ.1 0 45 = σ.1 13 2 ∧ ρ.1 0 46 = x1 ∧ 0 ≤ (σ.1 13 2).toInt ∧ (σ.1 13 2).toInt ≤ (σ.1 13 1).toInt
/-- a fault on both sides -/
def PF (σ ρ : S2) : Prop := σ.1 13 3 ≠ -1 ∧ ρ.1 0 47 ≠ 0
def PR (t x1 : Int32) (a0 : Int) (v w : Int32) (σ ρ : S2) : Prop := PB t σ ρ ∧ ((v = w ∧ PN x1 σ ρ ∧ a0 ≤ (σ.1 13 2).toInt) ∨ PF σ ρ)
section PARSE
variable {σ ρ σ' ρ' : S2} {τ : Nat} {t x1 : Int32}
theorem sign_eq {r q : Int32} (hB : PB t σ ρ) (hN : PN x1 σ ρ) (h : fX3_sign τ σ = some r) (h2 : fX12_here ρ = some q) : r = q ∧ (r ≠ -1 → (σ.1 13 2).toInt < (σ.1 13 1).toInt) := by
  obtain ⟨t0, t1, ⟨t2, t3⟩, t4, ⟨t5, t6⟩, t7, _⟩ := hB
  obtain ⟨n1, n2, n3, n4, n5, n6⟩ := hN
  have z0 := i_0
  have z80 : (Int32.ofNat 80).toInt = 80 := by decide
  unfold fX3_sign fX3_sign_0 at h
  unfold fX12_here fX12_here_0 at h2
  rw [t1, n3] at h2
  obtain ⟨_, h2⟩ := ckS h2
  rw [t4] at h2
  have h2 : (if σ.1 13 1 ≤ σ.1 13 2 then some (-1) else ck 880 (80 * t + σ.1 13 2) (nm (ρ.1 14 (80 * t + σ.1 13 2).toNatClampNeg) (fun v2 => some v2))) = some q := h2
  have k0 : ¬ σ.1 13 0 = 0 := by rw [t0]; decide
  rw [if_neg k0] at h
  rw [if_neg (fun w => by have := Int32.lt_iff_toInt_lt.mp w; omega)] at h
  by_cases c : σ.1 13 1 ≤ σ.1 13 2
  · rw [if_pos c] at h h2
    cases h; cases h2; exact ⟨rfl, fun w => absurd rfl w⟩
  · rw [if_neg c] at h h2
    have c' : ¬ (σ.1 13 1).toInt ≤ (σ.1 13 2).toInt := fun w => c (Int32.le_iff_toInt_le.mpr w)
    rw [if_neg (fun w => by have := Int32.le_iff_toInt_le.mp w; omega), if_neg k0] at h
    obtain ⟨_, h⟩ := ckS h
    obtain ⟨_, h2⟩ := ckS h2
    have h : some (σ.1 185 (σ.1 13 2).toNatClampNeg &&& 255) = some r := h
    have h2 : some (ρ.1 14 (80 * t + σ.1 13 2).toNatClampNeg) = some q := h2
    have e80 : (80 : Int32).toInt = 80 := rfl
    have m := i32_mulL (a := 80) (b := t) e80 (by omega) (by omega)
    have ix : (80 * t + σ.1 13 2).toInt = 80 * t.toInt + (σ.1 13 2).toInt := by rw [i32_add (by omega) (by omega)]; omega
    have nx := i32_nat (i := 80 * t + σ.1 13 2) (by omega)
    have nt := i32_nat t2
    have na := i32_nat n5
    have e := t7 (σ.1 13 2).toNatClampNeg (by omega)
    rw [show 80 * t.toNatClampNeg + (σ.1 13 2).toNatClampNeg = (80 * t + σ.1 13 2).toNatClampNeg by omega] at e
    rw [e] at h2
    cases h; cases h2
    exact ⟨rfl, fun _ => by omega⟩
theorem q_dig {a : Int32} : Pt (fun r => (r.toInt = 0 ∧ ¬ (48 ≤ a.toInt ∧ a.toInt ≤ 57)) ∨ (r.toInt = 1 ∧ 48 ≤ a.toInt ∧ a.toInt ≤ 57)) (fX3_isDigit τ σ a) := by
  have z0 := i_0
  have z1 := i_1
  have e1 : (48 : Int32).toInt = 48 := rfl
  have e2 : (57 : Int32).toInt = 57 := rfl
  unfold fX3_isDigit fX3_isDigit_0
  refine pt_lt (fun h => pt_some ?_) (fun h => pt_lt (fun h2 => pt_some ?_) (fun h2 => pt_some ?_))
  · rw [z0]; omega
  · rw [z0]; omega
  · rw [z1]; omega
/-- one byte on, on both sides -/
theorem PN.step (hN : PN x1 σ ρ) (hB : PB t σ ρ) (h : (σ.1 13 2).toInt < (σ.1 13 1).toInt) : PN x1 (ux_wI σ 13 2 (σ.1 13 2 + 1)) (ux_wI ρ 0 45 (ρ.1 0 45 + 1)) ∧ ((ux_wI σ 13 2 (σ.1 13 2 + 1)).1 13 2).toInt = (σ.1 13 2).toInt + 1 := by
  obtain ⟨n1, n2, n3, n4, n5, n6⟩ := hN
  have z1 := i_1
  have b := hB.2.2.2.2.1
  have e : (σ.1 13 2 + 1).toInt = (σ.1 13 2).toInt + 1 := by rw [i32_add (by omega) (by omega)]; omega
  refine ⟨⟨n1, n2, ?_, n4, ?_, ?_⟩, e⟩
  · show ρ.1 0 45 + 1 = σ.1 13 2 + 1
    rw [n3]
  · show 0 ≤ (σ.1 13 2 + 1).toInt
    omega
  · show (σ.1 13 2 + 1).toInt ≤ (σ.1 13 1).toInt
    omega
theorem number_lp : ∀ (N M : Nat) (σ ρ σ' ρ' : S2) (v x r q : Int32) (a0 : Int) (f g h3 : S2 → Option (Int32 × S2)), PB t σ ρ → PN x1 σ ρ → a0 ≤ (σ.1 13 2).toInt → fX3_readNumber_4 τ N σ v x = some (r, σ') → fX12_one_29 f g h3 M ρ v x = some (q, ρ') → PR t x1 a0 r q σ' ρ' := by
  have z1 := i_1
  have e1 : (48 : Int32).toInt = 48 := rfl
  have e2 : (57 : Int32).toInt = 57 := rfl
  intro N
  induction N with
  | zero => intro M σ ρ σ' ρ' v x r q a0 f g h3 _ _ _ h; cases h
  | succ N ih =>
    intro M σ ρ σ' ρ' v x r q a0 f g h3 hB hN ha h h2
    cases M with
    | zero => cases h2
    | succ M =>
      unfold fX3_readNumber_4 at h
      unfold fX12_one_29 at h2
      by_cases c : 3 ≤ x
      · rw [if_pos c] at h h2
        cases h; cases h2
        exact ⟨hB, Or.inl ⟨rfl, hN, ha⟩⟩
      rw [if_neg c] at h h2
      obtain ⟨s1, f1, h⟩ := biS h
      obtain ⟨s2, f2, h2⟩ := biS h2
      obtain ⟨es, lt⟩ := sign_eq hB hN f1 f2
      subst es
      obtain ⟨d1, g1, h⟩ := biS h
      obtain ⟨d2, g2, h2⟩ := biS h2
      have g1 := q_dig _ g1
      have g2 := q_in _ g2
      by_cases c1 : d1 = 0
      · have c1' : d1.toInt = 0 := by rw [c1]; rfl
        rw [if_pos c1] at h
        rw [if_pos (Int32.toInt_inj.mp (by rw [i_0]; omega))] at h2
        cases h; cases h2
        exact ⟨hB, Or.inl ⟨rfl, hN, ha⟩⟩
      have c1' : d1.toInt ≠ 0 := fun w => c1 (Int32.toInt_inj.mp w)
      rw [if_neg c1] at h
      rw [if_neg (fun w => by rw [w, i_0] at g2; omega)] at h2
      obtain ⟨s3, f3, h⟩ := biS h
      obtain ⟨s4, f4, h2⟩ := biS h2
      rw [f1] at f3; cases f3
      rw [f2] at f4; cases f4
      have hl := lt (fun w => by rw [w, i_m1] at g1; omega)
      obtain ⟨hN', e'⟩ := hN.step hB hl
      exact ih M (ux_wI σ 13 2 (σ.1 13 2 + 1)) (ux_wI ρ 0 45 (ρ.1 0 45 + 1)) σ' ρ' ((10 * v) + s1 - 48) (x + 1) r q a0 f g h3 hB hN' (by rw [e']; omega) h h2
/-- a fault at the place where both sides stand -/
theorem pf_mk {b : Int32} (hB : PB t σ ρ) (hN : PN x1 σ ρ) (hb : b ≠ 0) : PB t (ux_wI σ 13 3 (σ.1 13 2)) (ux_wI ρ 0 47 b) ∧ PF (ux_wI σ 13 3 (σ.1 13 2)) (ux_wI ρ 0 47 b) := by
  refine ⟨hB, fun w => ?_, hb⟩
  have w : σ.1 13 2 = -1 := w
  have := hN.2.2.2.2.1
  rw [w, i_m1] at this; omega
/-- what one group of calls owes: from a state without fault, both sides come to the same -/
def GP (τ : Nat) (t : Int32) (d e j j' : Nat) : Prop := ∀ (σ ρ σ' ρ' : S2) (x1 r q : Int32), 0 ≤ x1.toInt → x1.toInt ≤ 4 → PB t σ ρ → PN x1 σ ρ → GX3_readSum τ d j σ x1 = some (r, σ') → GX12_sum e j' ρ = some (q, ρ') → PR t x1 (σ.1 13 2).toInt r q σ' ρ'
theorem gp_zero {d j j' : Nat} : GP τ t d 0 j j' := fun σ ρ σ' ρ' x1 r q _ _ _ _ _ h2 => by cases h2
theorem gp_zero' {e j j' : Nat} : GP τ t 0 e j j' := fun σ ρ σ' ρ' x1 r q _ _ _ _ h _ => by cases h
theorem sum_lp {d e : Nat} (hP : GP τ t d e 1 1) (h0 : 0 ≤ x1.toInt) (h4 : x1.toInt ≤ 4) {q0 q2 q3 : S2 → Int32 → Option (Int32 × S2)} {p0 p2 : S2 → Option (Int32 × S2)} : ∀ (N M : Nat) (σ ρ σ' ρ' : S2) (v w x r q : Int32) (a0 : Int), PB t σ ρ → ((v = w ∧ PN x1 σ ρ ∧ a0 ≤ (σ.1 13 2).toInt ∧ 0 ≤ x.toInt ∧ x.toInt ≤ (σ.1 13 2).toInt) ∨ PF σ ρ) → fX3_readSum_8 τ q0 (GX3_readSum τ d 1) q2 q3 N σ x1 v x = some (r, σ') → fX12_sum_5 p0 (GX12_sum e 1) p2 M ρ w = some (q, ρ') → PR t x1 a0 r q σ' ρ' := by
  have z1 := i_1
  have z80 : (80 : Int32).toInt = 80 := rfl
  have p43 : (43 : Int32) ≠ -1 := by decide
  have p45 : (45 : Int32) ≠ -1 := by decide
  intro N
  induction N with
  | zero => intro M σ ρ σ' ρ' v w x r q a0 _ _ h; cases h
  | succ N ih =>
    intro M σ ρ σ' ρ' v w x r q a0 hB hc h h2
    cases M with
    | zero => cases h2
    | succ M =>
      unfold fX3_readSum_8 at h
      unfold fX12_sum_5 at h2
      rcases hc with ⟨ev, hN, ha, x0, xa⟩ | hF
      · subst ev
        rw [if_pos hN.2.1] at h2
        obtain ⟨s2, f2, h2⟩ := biS h2
        have stop : ∀ s : Int32, fX12_here ρ = some s → s ≠ 43 → s ≠ 45 → q = v ∧ ρ' = ρ := fun s fs n43 n45 => by
          rw [f2] at fs; cases fs
          rw [if_neg n43] at h2
          obtain ⟨s3, f3, h2⟩ := biS h2
          rw [f2] at f3; cases f3
          rw [if_neg n45] at h2
          cases h2; exact ⟨rfl, rfl⟩
        by_cases c : 80 ≤ x
        · rw [if_pos c] at h
          cases h
          have c := Int32.le_iff_toInt_le.mp c
          have b := hB.2.2.2.2.1
          have e1 : s2 = -1 := by
            have hs : fX3_sign τ σ = some (-1) := by
              unfold fX3_sign fX3_sign_0
              rw [if_neg (fun w => by have := Int32.lt_iff_toInt_lt.mp w; have := hN.2.2.2.2.1; rw [i_0] at *; omega), if_pos (Int32.le_iff_toInt_le.mpr (by have := hN.2.2.2.2.2; omega))]
            exact (sign_eq hB hN hs f2).1.symm
          obtain ⟨rfl, rfl⟩ := stop s2 f2 (by rw [e1]; exact fun w => p43 w.symm) (by rw [e1]; exact fun w => p45 w.symm)
          exact ⟨hB, Or.inl ⟨rfl, hN, ha⟩⟩
        rw [if_neg c, if_pos hN.1] at h
        obtain ⟨s1, f1, h⟩ := biS h
        obtain ⟨es, lt⟩ := sign_eq hB hN f1 f2
        subst es
        have c' : ¬ (80 : Int32).toInt ≤ x.toInt := fun w => c (Int32.le_iff_toInt_le.mpr w)
        have ex : (x + 1).toInt = x.toInt + 1 := by rw [i32_add (by omega) (by omega)]; omega
        have go : ∀ s0 : Int32, s1 ≠ -1 → (s1 = 43 ↔ s0 ≠ 0) → fX3_readSum_45 τ q0 (GX3_readSum τ d 1) q2 q3 (fX3_readSum_8 τ q0 (GX3_readSum τ d 1) q2 q3 N) σ x1 v x s1 = some (r, σ') → fX12_sum_44 p0 (GX12_sum e 1) p2 (fX12_sum_5 p0 (GX12_sum e 1) p2 M) ρ v s0 = some (q, ρ') → PR t x1 a0 r q σ' ρ' := fun s0 ns hs g1 g2 => by
          unfold fX3_readSum_45 fX3_readSum_80 at g1
          unfold fX12_sum_44 fX12_sum_73 at g2
          obtain ⟨hN', e'⟩ := hN.step hB (lt ns)
          unfold nm at g1 g2
          obtain ⟨v3, t3, k1, g1⟩ := bsS g1
          obtain ⟨v4, t4, k2, g2⟩ := bsS g2
          obtain ⟨hB2, hr⟩ := hP (ux_wI σ 13 2 (σ.1 13 2 + 1)) (ux_wI ρ 0 45 (ρ.1 0 45 + 1)) t3 t4 x1 v3 v4 h0 h4 hB hN' k1 k2
          rw [e'] at hr
          by_cases p : s1 = 43
          · rw [if_pos p] at g1
            rw [if_neg (hs.mp p)] at g2
            refine ih M t3 t4 σ' ρ' (v + v3) (v + v4) (x + 1) r q a0 hB2 ?_ g1 g2
            rcases hr with ⟨ev, hn, hm⟩ | hf
            · exact Or.inl ⟨by rw [ev], hn, by omega, by omega, by omega⟩
            · exact Or.inr hf
          · rw [if_neg p] at g1
            have s00 : s0 = 0 := Decidable.byContradiction (fun w => p (hs.mpr w))
            rw [if_pos s00] at g2
            refine ih M t3 t4 σ' ρ' (v - v3) (v - v4) (x + 1) r q a0 hB2 ?_ g1 g2
            rcases hr with ⟨ev, hn, hm⟩ | hf
            · exact Or.inl ⟨by rw [ev], hn, by omega, by omega, by omega⟩
            · exact Or.inr hf
        have p30 : ∀ g2 : fX12_sum_30 p0 (GX12_sum e 1) p2 (fX12_sum_5 p0 (GX12_sum e 1) p2 M) ρ v = some (q, ρ'), fX12_sum_44 p0 (GX12_sum e 1) p2 (fX12_sum_5 p0 (GX12_sum e 1) p2 M) ρ v (if s1 = 43 then 1 else 0) = some (q, ρ') := fun g2 => by
          unfold fX12_sum_30 at g2
          obtain ⟨s5, f5, g2⟩ := biS g2
          rw [f2] at f5; cases f5
          by_cases p : s1 = 43
          · rw [if_pos p] at g2 ⊢; exact g2
          · rw [if_neg p] at g2 ⊢; exact g2
        by_cases c1 : s1 = 43
        · rw [if_pos c1] at h h2
          have g2 := p30 h2
          rw [if_pos c1] at g2
          exact go 1 (by rw [c1]; exact p43) ⟨fun _ => by decide, fun _ => c1⟩ h g2
        rw [if_neg c1] at h h2
        obtain ⟨s5, f5, h2⟩ := biS h2
        rw [f2] at f5; cases f5
        by_cases c2 : s1 = 45
        · rw [if_pos c2] at h h2
          have g2 := p30 h2
          rw [if_neg c1] at g2
          exact go 0 (by rw [c2]; exact p45) ⟨fun w => absurd w c1, fun w => absurd rfl w⟩ h g2
        rw [if_neg c2] at h h2
        cases h; cases h2
        exact ⟨hB, Or.inl ⟨rfl, hN, ha⟩⟩
      · rw [if_neg hF.2] at h2
        cases h2
        by_cases c : 80 ≤ x
        · rw [if_pos c] at h; cases h; exact ⟨hB, Or.inr hF⟩
        · rw [if_neg c, if_neg hF.1] at h; cases h; exact ⟨hB, Or.inr hF⟩
theorem prod_lp {d e : Nat} (hP : GP τ t d e 2 2) (h0 : 0 ≤ x1.toInt) (h4 : x1.toInt ≤ 4) {q0 q1 q3 : S2 → Int32 → Option (Int32 × S2)} {p0 p1 : S2 → Option (Int32 × S2)} : ∀ (N M : Nat) (σ ρ σ' ρ' : S2) (v w x r q : Int32) (a0 : Int), PB t σ ρ → ((v = w ∧ PN x1 σ ρ ∧ a0 ≤ (σ.1 13 2).toInt ∧ 0 ≤ x.toInt ∧ x.toInt ≤ (σ.1 13 2).toInt) ∨ PF σ ρ) → fX3_readProduct_8 τ q0 q1 (GX3_readSum τ d 2) q3 N σ x1 v x = some (r, σ') → fX12_product_5 p0 p1 (GX12_sum e 2) M ρ w = some (q, ρ') → PR t x1 a0 r q σ' ρ' := by
  have z1 := i_1
  have z80 : (80 : Int32).toInt = 80 := rfl
  have p42 : (42 : Int32) ≠ -1 := by decide
  have p47 : (47 : Int32) ≠ -1 := by decide
  have p37 : (37 : Int32) ≠ -1 := by decide
  intro N
  induction N with
  | zero => intro M σ ρ σ' ρ' v w x r q a0 _ _ h; cases h
  | succ N ih =>
    intro M σ ρ σ' ρ' v w x r q a0 hB hc h h2
    cases M with
    | zero => cases h2
    | succ M =>
      unfold fX3_readProduct_8 at h
      unfold fX12_product_5 at h2
      rcases hc with ⟨ev, hN, ha, x0, xa⟩ | hF
      · subst ev
        rw [if_pos hN.2.1] at h2
        obtain ⟨s2, f2, h2⟩ := biS h2
        have stop : ∀ s : Int32, fX12_here ρ = some s → s ≠ 42 → s ≠ 47 → s ≠ 37 → q = v ∧ ρ' = ρ := fun s fs n1 n2 n3 => by
          rw [f2] at fs; cases fs
          rw [if_neg n1] at h2
          obtain ⟨s3, f3, h2⟩ := biS h2
          rw [f2] at f3; cases f3
          rw [if_neg n2] at h2
          obtain ⟨s3, f3, h2⟩ := biS h2
          rw [f2] at f3; cases f3
          rw [if_neg n3] at h2
          cases h2; exact ⟨rfl, rfl⟩
        by_cases c : 80 ≤ x
        · rw [if_pos c] at h
          cases h
          have c := Int32.le_iff_toInt_le.mp c
          have b := hB.2.2.2.2.1
          have e1 : s2 = -1 := by
            have hs : fX3_sign τ σ = some (-1) := by
              unfold fX3_sign fX3_sign_0
              rw [if_neg (fun w => by have := Int32.lt_iff_toInt_lt.mp w; have := hN.2.2.2.2.1; rw [i_0] at *; omega), if_pos (Int32.le_iff_toInt_le.mpr (by have := hN.2.2.2.2.2; omega))]
            exact (sign_eq hB hN hs f2).1.symm
          obtain ⟨rfl, rfl⟩ := stop s2 f2 (by rw [e1]; exact fun w => p42 w.symm) (by rw [e1]; exact fun w => p47 w.symm) (by rw [e1]; exact fun w => p37 w.symm)
          exact ⟨hB, Or.inl ⟨rfl, hN, ha⟩⟩
        rw [if_neg c, if_pos hN.1] at h
        obtain ⟨s1, f1, h⟩ := biS h
        obtain ⟨es, lt⟩ := sign_eq hB hN f1 f2
        subst es
        have c' : ¬ (80 : Int32).toInt ≤ x.toInt := fun w => c (Int32.le_iff_toInt_le.mpr w)
        have ex : (x + 1).toInt = x.toInt + 1 := by rw [i32_add (by omega) (by omega)]; omega
        have go : s1 ≠ -1 → (s1 = 42 ∨ s1 = 47 ∨ s1 = 37) → fX3_readProduct_52 τ q0 q1 (GX3_readSum τ d 2) q3 (fX3_readProduct_8 τ q0 q1 (GX3_readSum τ d 2) q3 N) σ x1 v x s1 = some (r, σ') → fX12_product_39 p0 p1 (GX12_sum e 2) (fX12_product_5 p0 p1 (GX12_sum e 2) M) ρ v = some (q, ρ') → PR t x1 a0 r q σ' ρ' := fun ns hs g1 g2 => by
          unfold fX3_readProduct_52 fX3_readProduct_112 fX3_readProduct_113 at g1
          unfold fX12_product_39 fX12_product_114 at g2
          obtain ⟨s5, f5, g2⟩ := biS g2
          rw [f2] at f5; cases f5
          obtain ⟨hN', e'⟩ := hN.step hB (lt ns)
          unfold nm at g1 g2
          obtain ⟨v3, t3, k1, g1⟩ := bsS g1
          obtain ⟨v4, t4, k2, g2⟩ := bsS g2
          obtain ⟨hB2, hr⟩ := hP (ux_wI σ 13 2 (σ.1 13 2 + 1)) (ux_wI ρ 0 45 (ρ.1 0 45 + 1)) t3 t4 x1 v3 v4 h0 h4 hB hN' k1 k2
          rw [e'] at hr
          have nx : ∀ u u2 : Int32, (v3 = v4 → u = u2) → fX3_readProduct_8 τ q0 q1 (GX3_readSum τ d 2) q3 N t3 x1 u (x + 1) = some (r, σ') → fX12_product_5 p0 p1 (GX12_sum e 2) M t4 u2 = some (q, ρ') → PR t x1 a0 r q σ' ρ' := fun u u2 eu y1 y2 => by
            refine ih M t3 t4 σ' ρ' u u2 (x + 1) r q a0 hB2 ?_ y1 y2
            rcases hr with ⟨ev, hn, hm⟩ | hf
            · exact Or.inl ⟨eu ev, hn, by omega, by omega, by omega⟩
            · exact Or.inr hf
          -- what the reference goes on with
          have r2 : ∃ u2 : Int32, fX12_product_5 p0 p1 (GX12_sum e 2) M t4 u2 = some (q, ρ') ∧ u2 = (if s1 = 42 then v * v4 else if v4 = 0 then 0 else if s1 = 47 then v / v4 else v - v / v4 * v4) := by
            by_cases p1 : s1 = 42
            · rw [if_pos p1] at g2 ⊢; exact ⟨_, g2, rfl⟩
            rw [if_neg p1] at g2 ⊢
            by_cases p2 : v4 = 0
            · rw [if_pos p2] at g2 ⊢; exact ⟨_, g2, rfl⟩
            rw [if_neg p2] at g2 ⊢
            by_cases p3 : v4 = -1
            · rw [if_pos p3] at g2
              by_cases p4 : s1 = 47
              · rw [if_pos p4] at g2 ⊢; exact ⟨_, g2, by rw [p3, div_m1]⟩
              · rw [if_neg p4] at g2 ⊢; exact ⟨_, g2, by rw [p3, rem_m1]⟩
            rw [if_neg p3] at g2
            by_cases p4 : s1 = 47
            · rw [if_pos p4] at g2 ⊢
              obtain ⟨_, g2⟩ := dzS g2
              exact ⟨_, g2, rfl⟩
            · rw [if_neg p4] at g2 ⊢
              obtain ⟨_, g2⟩ := dzS g2
              exact ⟨_, g2, rfl⟩
          have r1 : ∃ u : Int32, fX3_readProduct_8 τ q0 q1 (GX3_readSum τ d 2) q3 N t3 x1 u (x + 1) = some (r, σ') ∧ u = (if s1 = 42 then v * v3 else if v3 = 0 then 0 else if s1 = 47 then v / v3 else v - v / v3 * v3) := by
            by_cases p1 : s1 = 42
            · rw [if_pos p1] at g1 ⊢; exact ⟨_, g1, rfl⟩
            rw [if_neg p1] at g1 ⊢
            by_cases p2 : v3 = 0
            · rw [if_pos p2] at g1 ⊢; exact ⟨_, g1, rfl⟩
            rw [if_neg p2] at g1 ⊢
            by_cases p4 : s1 = 47
            · rw [if_pos p4] at g1 ⊢
              obtain ⟨_, g1⟩ := dzS g1
              exact ⟨_, g1, rfl⟩
            · rw [if_neg p4] at g1 ⊢
              obtain ⟨_, g1⟩ := dzS g1
              exact ⟨_, g1, rfl⟩
          obtain ⟨u, y1, eu⟩ := r1
          obtain ⟨u2, y2, eu2⟩ := r2
          exact nx u u2 (fun w => by rw [eu, eu2, w]) y1 y2
        by_cases c1 : s1 = 42
        · rw [if_pos c1] at h h2
          exact go (by rw [c1]; exact p42) (Or.inl c1) h h2
        rw [if_neg c1] at h h2
        obtain ⟨s5, f5, h2⟩ := biS h2
        rw [f2] at f5; cases f5
        by_cases c2 : s1 = 47
        · rw [if_pos c2] at h h2
          exact go (by rw [c2]; exact p47) (Or.inr (Or.inl c2)) h h2
        rw [if_neg c2] at h h2
        obtain ⟨s5, f5, h2⟩ := biS h2
        rw [f2] at f5; cases f5
        by_cases c3 : s1 = 37
        · rw [if_pos c3] at h h2
          exact go (by rw [c3]; exact p37) (Or.inr (Or.inr c3)) h h2
        rw [if_neg c3] at h h2
        cases h; cases h2
        exact ⟨hB, Or.inl ⟨rfl, hN, ha⟩⟩
      · rw [if_neg hF.2] at h2
        cases h2
        by_cases c : 80 ≤ x
        · rw [if_pos c] at h; cases h; exact ⟨hB, Or.inr hF⟩
        · rw [if_neg c, if_neg hF.1] at h; cases h; exact ⟨hB, Or.inr hF⟩
end PARSE
section PARSE2
variable {τ : Nat} {t : Int32}
theorem gp_sum {d e : Nat} (hP : GP τ t d e 1 1) : GP τ t (d + 1) (e + 1) 0 0 := by
  intro σ ρ σ' ρ' x1 r q h0 h4 hB hN h h2
  have h : fX3_readSum_0 τ (GX3_readSum τ d 0) (GX3_readSum τ d 1) (GX3_readSum τ d 2) (GX3_readSum τ d 3) σ x1 = some (r, σ') := h
  have h2 : fX12_sum_0 (GX12_sum e 0) (GX12_sum e 1) (GX12_sum e 2) ρ = some (q, ρ') := h2
  unfold fX3_readSum_0 at h
  unfold fX12_sum_0 at h2
  obtain ⟨v3, t3, k1, h⟩ := bsS h
  obtain ⟨v4, t4, k2, h2⟩ := bsS h2
  obtain ⟨hB2, hr⟩ := hP σ ρ t3 t4 x1 v3 v4 h0 h4 hB hN k1 k2
  refine sum_lp hP h0 h4 FU FU t3 t4 σ' ρ' v3 v4 0 r q _ hB2 ?_ h h2
  rcases hr with ⟨ev, hn, hm⟩ | hf
  · exact Or.inl ⟨ev, hn, hm, by decide, by rw [i_0]; exact hn.2.2.2.2.1⟩
  · exact Or.inr hf
theorem gp_prod {d e : Nat} (hP : GP τ t d e 2 2) : GP τ t (d + 1) (e + 1) 1 1 := by
  intro σ ρ σ' ρ' x1 r q h0 h4 hB hN h h2
  have h : fX3_readProduct_0 τ (GX3_readSum τ d 0) (GX3_readSum τ d 1) (GX3_readSum τ d 2) (GX3_readSum τ d 3) σ x1 = some (r, σ') := h
  have h2 : fX12_product_0 (GX12_sum e 0) (GX12_sum e 1) (GX12_sum e 2) ρ = some (q, ρ') := h2
  unfold fX3_readProduct_0 at h
  unfold fX12_product_0 at h2
  obtain ⟨v3, t3, k1, h⟩ := bsS h
  obtain ⟨v4, t4, k2, h2⟩ := bsS h2
  obtain ⟨hB2, hr⟩ := hP σ ρ t3 t4 x1 v3 v4 h0 h4 hB hN k1 k2
  refine prod_lp hP h0 h4 FU FU t3 t4 σ' ρ' v3 v4 0 r q _ hB2 ?_ h h2
  rcases hr with ⟨ev, hn, hm⟩ | hf
  · exact Or.inl ⟨ev, hn, hm, by decide, by rw [i_0]; exact hn.2.2.2.2.1⟩
  · exact Or.inr hf
theorem letters {σ ρ σ' ρ' : S2} {x1 s r q : Int32} {q0 q1 q2 q3 : S2 → Int32 → Option (Int32 × S2)} {p0 p1 p2 : S2 → Option (Int32 × S2)} (hB : PB t σ ρ) (hN : PN x1 σ ρ) (lt : s ≠ -1 → (σ.1 13 2).toInt < (σ.1 13 1).toInt) (h : fX3_readOperand_34 τ q0 q1 q2 q3 σ s = some (r, σ')) (h2 : fX12_one_136 p0 p1 p2 ρ s = some (q, ρ')) : PR t x1 (σ.1 13 2).toInt r q σ' ρ' := by
  unfold fX3_readOperand_34 fX3_readOperand_122 at h
  unfold fX12_one_136 fX12_one_160 at h2
  obtain ⟨_, _, _, _, _, _, b1, b2, b3, b4⟩ := id hB
  have good : ∀ v w : Int32, v = w → s ≠ -1 → some (v, ux_wI σ 13 2 (σ.1 13 2 + 1)) = some (r, σ') → some (w, ux_wI ρ 0 45 (ρ.1 0 45 + 1)) = some (q, ρ') → PR t x1 (σ.1 13 2).toInt r q σ' ρ' := fun v w ev ns g1 g2 => by
    obtain ⟨hN', e'⟩ := hN.step hB (lt ns)
    cases g1; cases g2
    exact ⟨hB, Or.inl ⟨ev, hN', by rw [e']; omega⟩⟩
  by_cases c1 : s = 110
  · rw [if_pos c1] at h h2
    have h2 : (if s = 110 then some (ρ.1 0 48, ux_wI ρ 0 45 (ρ.1 0 45 + 1)) else _) = some (q, ρ') := h2
    rw [if_pos c1] at h2
    exact good _ _ b1.symm (by rw [c1]; decide) h h2
  rw [if_neg c1] at h h2
  by_cases c2 : s = 116
  · rw [if_pos c2] at h
    have h2 : (if s = 110 then some (ρ.1 0 48, ux_wI ρ 0 45 (ρ.1 0 45 + 1)) else if s = 117 then some (ρ.1 0 49, ux_wI ρ 0 45 (ρ.1 0 45 + 1)) else if s = 116 then some (ρ.1 0 50, ux_wI ρ 0 45 (ρ.1 0 45 + 1)) else some (ρ.1 0 51, ux_wI ρ 0 45 (ρ.1 0 45 + 1))) = some (q, ρ') := by
      rw [if_neg (by rw [c2]; decide), if_pos c2] at h2; exact h2
    rw [if_neg c1, if_neg (by rw [c2]; decide), if_pos c2] at h2
    exact good _ _ b3.symm (by rw [c2]; decide) h h2
  rw [if_neg c2] at h
  by_cases c3 : s = 117
  · rw [if_pos c3] at h h2
    have h2 : (if s = 110 then some (ρ.1 0 48, ux_wI ρ 0 45 (ρ.1 0 45 + 1)) else if s = 117 then some (ρ.1 0 49, ux_wI ρ 0 45 (ρ.1 0 45 + 1)) else if s = 116 then some (ρ.1 0 50, ux_wI ρ 0 45 (ρ.1 0 45 + 1)) else some (ρ.1 0 51, ux_wI ρ 0 45 (ρ.1 0 45 + 1))) = some (q, ρ') := h2
    rw [if_neg c1, if_pos c3] at h2
    exact good _ _ b2.symm (by rw [c3]; decide) h h2
  rw [if_neg c3] at h h2
  rw [if_neg c2] at h2
  by_cases c4 : s = 120
  · rw [if_pos c4] at h h2
    have h2 : (if s = 110 then some (ρ.1 0 48, ux_wI ρ 0 45 (ρ.1 0 45 + 1)) else if s = 117 then some (ρ.1 0 49, ux_wI ρ 0 45 (ρ.1 0 45 + 1)) else if s = 116 then some (ρ.1 0 50, ux_wI ρ 0 45 (ρ.1 0 45 + 1)) else some (ρ.1 0 51, ux_wI ρ 0 45 (ρ.1 0 45 + 1))) = some (q, ρ') := h2
    rw [if_neg c1, if_neg c3, if_neg c2] at h2
    exact good _ _ b4.symm (by rw [c4]; decide) h h2
  rw [if_neg c4] at h h2
  have h : some ((0 : Int32), ux_wI σ 13 3 (σ.1 13 2)) = some (r, σ') := h
  have h2 : some ((0 : Int32), ux_wI ρ 0 47 1) = some (q, ρ') := h2
  cases h; cases h2
  have := pf_mk hB hN (b := 1) (by decide)
  exact ⟨this.1, Or.inr this.2⟩
theorem gp_one {d e : Nat} (hS : ∀ d : Nat, GP τ t d e 0 0) : GP τ t (d + 1) (e + 1) 2 2 := by
  intro σ ρ σ' ρ' x1 r q h0 h4 hB hN h h2
  have z1 := i_1
  have z4 := i_4
  have h : fX3_readOperand_0 τ (GX3_readSum τ d 0) (GX3_readSum τ d 1) (GX3_readSum τ d 2) (GX3_readSum τ d 3) σ x1 = some (r, σ') := h
  have h2 : fX12_one_0 (GX12_sum e 0) (GX12_sum e 1) (GX12_sum e 2) ρ = some (q, ρ') := h2
  unfold fX3_readOperand_0 at h
  unfold fX12_one_0 at h2
  obtain ⟨s1, f1, h⟩ := biS h
  obtain ⟨s2, f2, h2⟩ := biS h2
  obtain ⟨es, lt⟩ := sign_eq hB hN f1 f2
  subst es
  rw [if_pos hN.2.1] at h2
  obtain ⟨d1, g1, h⟩ := biS h
  obtain ⟨d2, g2, h2⟩ := biS h2
  have g1 := q_dig _ g1
  have g2 := q_in _ g2
  have e1 : (48 : Int32).toInt = 48 := rfl
  have e2 : (57 : Int32).toInt = 57 := rfl
  by_cases c1 : d1 = 0
  · have c1' : d1.toInt = 0 := by rw [c1]; rfl
    rw [if_pos c1] at h
    rw [if_pos (Int32.toInt_inj.mp (by rw [i_0]; omega))] at h2
    by_cases c2 : s1 = 40
    · rw [if_pos c2] at h h2
      rw [hN.2.2.2.1] at h2
      by_cases c3 : 4 ≤ x1
      · rw [if_pos c3] at h h2
        exact letters hB hN lt h h2
      · rw [if_neg c3] at h h2
        have c3' : ¬ (4 : Int32).toInt ≤ x1.toInt := fun w => c3 (Int32.le_iff_toInt_le.mpr w)
        obtain ⟨v3, t3, k1, h⟩ := bsS h
        cases h
        cases d with
        | zero => cases k1
        | succ d =>
          have k1 : fX3_readBracket_0 τ (GX3_readSum τ d 0) (GX3_readSum τ d 1) (GX3_readSum τ d 2) (GX3_readSum τ d 3) σ x1 = some (r, σ') := k1
          unfold fX3_readBracket_0 at k1
          unfold nm at k1 h2
          obtain ⟨v5, t5, y1, k1⟩ := bsS k1
          obtain ⟨v6, t6, y2, h2⟩ := bsS h2
          have ex : (x1 + 1).toInt = x1.toInt + 1 := by rw [i32_add (by omega) (by omega)]; omega
          obtain ⟨hN', e'⟩ := hN.step hB (lt (by rw [c2]; decide))
          have hN2 : PN (x1 + 1) (ux_wI σ 13 2 (σ.1 13 2 + 1)) (ux_wI (ux_wI ρ 0 46 (x1 + 1)) 0 45 (ρ.1 0 45 + 1)) := ⟨hN'.1, hN'.2.1, hN'.2.2.1, rfl, hN'.2.2.2.2⟩
          obtain ⟨hB2, hr⟩ := hS d (ux_wI σ 13 2 (σ.1 13 2 + 1)) (ux_wI (ux_wI ρ 0 46 (x1 + 1)) 0 45 (ρ.1 0 45 + 1)) t5 t6 (x1 + 1) v5 v6 (by omega) (by omega) hB hN2 y1 y2
          rw [e'] at hr
          obtain ⟨u7, t7, y3, h2⟩ := bsS h2
          have h2 : some (v6, ux_wI t7 0 46 (t7.1 0 46 - 1)) = some (q, ρ') := h2
          unfold fX12_eats fX12_eats_0 fX12_eats_28 at y3
          rcases hr with ⟨ev, hn, hm⟩ | hf
          · rw [if_pos hn.1] at k1
            rw [if_pos hn.2.1] at y3
            obtain ⟨s5, f5, k1⟩ := biS k1
            obtain ⟨s6, f6, y3⟩ := biS y3
            obtain ⟨es, lt2⟩ := sign_eq hB2 hn f5 f6
            subst es
            by_cases c5 : s5 = 41
            · rw [if_pos c5] at k1 y3
              have k1 : some (v5, ux_wI t5 13 2 (t5.1 13 2 + 1)) = some (r, σ') := k1
              have y3 : some ((), ux_wI t6 0 45 (t6.1 0 45 + 1)) = some (u7, t7) := y3
              obtain ⟨hn', e''⟩ := hn.step hB2 (lt2 (by rw [c5]; decide))
              cases k1; cases y3; cases h2
              refine ⟨hB2, Or.inl ⟨ev, ⟨hn'.1, hn'.2.1, hn'.2.2.1, ?_, hn'.2.2.2.2⟩, ?_⟩⟩
              · show t6.1 0 46 - 1 = x1
                rw [hn.2.2.2.1]; exact Int32.add_sub_cancel _ _
              · show _ ≤ ((ux_wI t5 13 2 (t5.1 13 2 + 1)).1 13 2).toInt
                rw [e'']; omega
            · rw [if_neg c5] at k1 y3
              have k1 : some (v5, ux_wI t5 13 3 (t5.1 13 2)) = some (r, σ') := k1
              have y3 : some ((), ux_wI t6 0 47 1) = some (u7, t7) := y3
              have := pf_mk hB2 hn (b := 1) (by decide)
              cases k1; cases y3; cases h2
              exact ⟨this.1, Or.inr this.2⟩
          · rw [if_neg hf.1] at k1
            rw [if_neg hf.2] at y3
            have y3 : some ((), ux_wI t6 0 47 1) = some (u7, t7) := y3
            cases k1; cases y3; cases h2
            exact ⟨hB2, Or.inr ⟨hf.1, by show (1 : Int32) ≠ 0; decide⟩⟩
    · rw [if_neg c2] at h h2
      exact letters hB hN lt h h2
  · have c1' : d1.toInt ≠ 0 := fun w => c1 (Int32.toInt_inj.mp w)
    rw [if_neg c1] at h
    rw [if_neg (fun w => by rw [w, i_0] at g2; omega)] at h2
    obtain ⟨v3, t3, k1, h⟩ := bsS h
    cases h
    exact number_lp FU FU σ ρ _ ρ' 0 0 _ q _ _ _ _ hB hN (Int.le_refl _) k1 h2
theorem gp_all : ∀ e d : Nat, GP τ t d e 0 0 ∧ GP τ t d e 1 1 ∧ GP τ t d e 2 2 := by
  intro e
  induction e with
  | zero => intro d; exact ⟨gp_zero, gp_zero, gp_zero⟩
  | succ e ih =>
    intro d
    cases d with
    | zero => exact ⟨gp_zero', gp_zero', gp_zero'⟩
    | succ d => exact ⟨gp_sum (ih d).2.1, gp_prod (ih d).2.2, gp_one (fun d => (ih d).1)⟩
theorem sum_eq {σ ρ σ' ρ' : S2} {r q : Int32} (hB : PB t σ ρ) (hN : PN 0 σ ρ) (h : fX3_readSum τ σ 0 = some (r, σ')) (h2 : fX12_sum ρ = some (q, ρ')) : PR t 0 (σ.1 13 2).toInt r q σ' ρ' := (gp_all 24 24).1 σ ρ σ' ρ' 0 r q (by decide) (by decide) hB hN h h2
end PARSE2
