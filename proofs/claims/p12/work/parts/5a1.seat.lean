/-! seats: both sides seat the same keepers at the same places -/
section SEATS
variable {τ b : Nat} {t z : Int32}
theorem c_behind {σ : S2} {x : Int32} (h0 : 0 ≤ x.toInt) (h1 : x.toInt ≤ 999) : Pt (fun r => r.toInt = (x.toInt + 1) % 1000) (fX11_placeBehind τ σ x) := by
  have z0 := i_0
  have z1 := i_1
  have z1000 : (1000 : Int32).toInt = 1000 := rfl
  have e : (x + 1).toInt = x.toInt + 1 := by rw [i32_add (by omega) (by omega)]; omega
  unfold fX11_placeBehind fX11_placeBehind_0
  exact pt_le (fun h => pt_some (by omega)) (fun h => pt_some (by omega))
/-- r is the first free place from x on, d places further -/
noncomputable def FF (f : Nat → Int32) (x d r : Int) : Prop := 0 ≤ d ∧ r = (x + d) % 1000 ∧ f r.toNat = -1 ∧ ∀ j : Int, 0 ≤ j → j < d → f ((x + j) % 1000).toNat ≠ -1
theorem ff_min {f : Nat → Int32} {x : Int} : ∀ n : Nat, (∃ j : Nat, j ≤ n ∧ f ((x + j) % 1000).toNat = -1) → ∃ d : Nat, d ≤ n ∧ f ((x + d) % 1000).toNat = -1 ∧ ∀ j : Nat, j < d → f ((x + j) % 1000).toNat ≠ -1 := by
  intro n
  induction n with
  | zero =>
    rintro ⟨j, hj, h⟩
    have e : j = 0 := by omega
    subst e
    exact ⟨0, Nat.le_refl _, h, fun i hi => absurd hi (Nat.not_lt_zero _)⟩
  | succ n ih =>
    rintro ⟨j, hj, h⟩
    by_cases c : ∃ j : Nat, j ≤ n ∧ f ((x + j) % 1000).toNat = -1
    · obtain ⟨d, h1, h2, h3⟩ := ih c
      exact ⟨d, by omega, h2, h3⟩
    · have e : j = n + 1 := by
        by_cases q : j = n + 1
        · exact q
        · exact absurd ⟨j, by omega, h⟩ c
      subst e
      exact ⟨n + 1, Nat.le_refl _, h, fun i hi w => c ⟨i, by omega, w⟩⟩
theorem ff_ex {f : Nat → Int32} {x : Int} (h0 : 0 ≤ x) (h1 : x ≤ 999) (h : ∃ q : Nat, q < 1000 ∧ f q = -1) : ∃ d r : Int, d < 1000 ∧ FF f x d r := by
  obtain ⟨q, hq, hf⟩ := h
  obtain ⟨d, e1, e2, e3⟩ := ff_min (f := f) (x := x) 999 ⟨(((q : Int) - x) % 1000).toNat, by omega, by
    have e : ((x + ((((q : Int) - x) % 1000).toNat : Int)) % 1000).toNat = q := by omega
    rw [e]; exact hf⟩
  refine ⟨d, (x + d) % 1000, by omega, by omega, rfl, e2, fun j j0 jd w => ?_⟩
  have e : ((j.toNat : Nat) : Int) = j := by omega
  exact e3 j.toNat (by omega) (by rw [e]; exact w)
theorem FF.next {f : Nat → Int32} {x d r y : Int} (h : FF f x d r) (hx : 0 ≤ x) (hy : y = (x + 1) % 1000) (hd : d ≠ 0) : FF f y (d - 1) r := by
  obtain ⟨a, b, c, e⟩ := h
  refine ⟨by omega, by omega, c, fun j j0 jd => ?_⟩
  have w := e (j + 1) (by omega) (by omega)
  rw [show (y + j) % 1000 = (x + (j + 1)) % 1000 by omega]; exact w
theorem FF.at0 {f : Nat → Int32} {x d r : Int} (h : FF f x d r) (h0 : 0 ≤ x) (h1 : x ≤ 999) : (f x.toNat = -1 ↔ d = 0) ∧ (d = 0 → r = x) := by
  obtain ⟨a, b, c, e⟩ := h
  refine ⟨⟨fun w => ?_, fun w => ?_⟩, fun w => by omega⟩
  · by_cases q : d = 0
    · exact q
    · refine absurd w ?_
      have := e 0 (Int.le_refl _) (by omega)
      rw [show (x + 0) % 1000 = x by omega] at this; exact this
  · rw [show x = r by omega]; exact c
theorem c_free {σ : S2} {r : Int} : ∀ (N : Nat) (x i : Int32) (d : Int), 0 ≤ x.toInt → x.toInt ≤ 999 → 0 ≤ i.toInt → i.toInt + d < 1000 → FF (σ.1 (182 + 6 * b + 4)) x.toInt d r → Pt (fun q => q.toInt = r) (fX8_freeFrom_4 τ b N σ x i) := by
  have z1 := i_1
  have z1000 : (1000 : Int32).toInt = 1000 := rfl
  intro N
  induction N with
  | zero => intro x i d _ _ _ _ _; exact pt_none
  | succ N ih =>
    intro x i d h0 h1 i0 i1 hF
    have d0 := hF.1
    have w := hF.at0 h0 h1
    have nx := i32_nat h0
    have ex : x.toNatClampNeg = x.toInt.toNat := by omega
    unfold fX8_freeFrom_4
    refine pt_le (fun h => ?_) (fun h => pt_ck (fun _ _ _ => pt_nm (fun v e => pt_if (fun c => pt_some ?_) (fun c => ?_))))
    · exfalso; omega
    · rw [e, ex] at c
      exact (w.2 (w.1.mp c)).symm
    · rw [e, ex] at c
      have dn : d ≠ 0 := fun q => c (w.1.mpr q)
      have e1 : (i + 1).toInt = i.toInt + 1 := by rw [i32_add (by omega) (by omega)]; omega
      refine pt_bi (c_behind h0 h1) (fun r2 h2 => pt_nm (fun v4 e4 => ?_))
      rw [e4]
      exact ih r2 (i + 1) (d - 1) (by omega) (by omega) (by omega) (by omega) (hF.next h0 h2 dn)
theorem m_sits95 {k75 : S2 → Int32 → Int32 → Int32 → Int32 → Option (Unit × S2)} {Q : Unit × S2 → Prop} {ρ : S2} {x2 x3 x4 : Int32} {r : Int} (t0 : 0 ≤ t.toInt) (t1 : t.toInt ≤ 10) (kx : Pt Q (k75 (ux_wI (ux_wI ρ 18 (1000 * t.toNatClampNeg + r.toNat) x2) 17 t.toNatClampNeg (ρ.1 17 t.toNatClampNeg + 1)) t x2 x3 (x4 + 1))) : ∀ (N : Nat) (x5 : Int32) (d : Int), 0 ≤ x5.toInt → x5.toInt ≤ 999 → FF (fun p => ρ.1 18 (1000 * t.toNatClampNeg + p)) x5.toInt d r → Pt Q (fX12_sits_95 k75 N ρ t x2 x3 x4 x5) := by
  intro N
  induction N with
  | zero => intro x5 d _ _ _; exact pt_none
  | succ N ih =>
    intro x5 d h0 h1 hF
    have w := hF.at0 h0 h1
    have ix := seat_ix t0 t1 h0 h1
    have n5 := i32_nat h0
    have ex : x5.toNatClampNeg = x5.toInt.toNat := by omega
    unfold fX12_sits_95
    refine pt_ck (fun _ _ _ => pt_nm (fun v1 e1 => ?_))
    rw [ix.2.2, ex] at e1
    refine pt_if (fun c => ?_) (fun c => ?_)
    · have c : ρ.1 18 (1000 * t.toNatClampNeg + x5.toInt.toNat) = -1 := e1.symm.trans c
      have er := w.2 (w.1.mp c)
      refine pt_ck (fun _ _ _ => pt_nm (fun s2 e2 => pt_ck (fun _ _ _ => pt_nm (fun v3 e3 => pt_ck (fun _ _ _ => pt_nm (fun s4 e4 => pt_nm (fun v5 e5 => ?_)))))))
      rw [ix.2.2, ex, ← er] at e2
      have g3 : v3 = ρ.1 17 t.toNatClampNeg := by rw [e3, e2, wI_k _ _ _ _ (by decide)]
      rw [e5, e4, g3, e2]; exact kx
    · have c : ¬ ρ.1 18 (1000 * t.toNatClampNeg + x5.toInt.toNat) = -1 := fun q => c (e1.trans q)
      refine pt_dz (fun _ => pt_nm (fun v7 e7 => ?_))
      have n7 := next_ix h0 h1
      rw [← e7] at n7
      exact ih v7 (d - 1) (by omega) (by omega) (hF.next h0 n7 (fun q => c (w.1.mpr q)))
/-- no free place: the reference finds none -/
theorem m_sits_full {k75 : S2 → Int32 → Int32 → Int32 → Int32 → Option (Unit × S2)} {Q : Unit × S2 → Prop} {ρ : S2} {x2 x3 x4 : Int32} (t0 : 0 ≤ t.toInt) (t1 : t.toInt ≤ 10) (hn : ∀ p : Nat, p < 1000 → ρ.1 18 (1000 * t.toNatClampNeg + p) ≠ -1) : ∀ (N : Nat) (x5 : Int32), 0 ≤ x5.toInt → x5.toInt ≤ 999 → Pt Q (fX12_sits_95 k75 N ρ t x2 x3 x4 x5) := by
  intro N
  induction N with
  | zero => intro x5 _ _; exact pt_none
  | succ N ih =>
    intro x5 h0 h1
    have ix := seat_ix t0 t1 h0 h1
    have n5 := i32_nat h0
    unfold fX12_sits_95
    refine pt_ck (fun _ _ _ => pt_nm (fun v1 e1 => pt_if (fun c => ?_) (fun c => pt_dz (fun _ => pt_nm (fun v7 e7 => ?_)))))
    · rw [ix.2.2] at e1
      exact absurd (e1.symm.trans c) (hn _ (by omega))
    · have n7 := next_ix h0 h1
      rw [← e7] at n7
      exact ih v7 (by omega) (by omega)
noncomputable def SE (b : Nat) (t : Int32) (σ ρ : S2) : Prop := ∀ p : Nat, p < 1000 → ρ.1 18 (1000 * t.toNatClampNeg + p) = σ.1 (182 + 6 * b + 4) p
theorem cnS_put {f f' : Nat → Int32} {q : Nat} (h : ∀ p, p ≠ q → f' p = f p) (h0 : (f q).toInt = -1) (h1 : (f' q).toInt ≠ -1) : ∀ n : Nat, cnS f' n = cnS f n + (if q < n then 1 else 0) := by
  intro n
  induction n with
  | zero => rfl
  | succ n ih =>
    have e : cnS f (n + 1) = cnS f n + (if (f n).toInt = -1 then 0 else 1) := rfl
    have e' : cnS f' (n + 1) = cnS f' n + (if (f' n).toInt = -1 then 0 else 1) := rfl
    rw [e, e', ih]
    by_cases c : n = q
    · subst c
      rw [if_neg h1, if_pos h0, if_neg (Nat.lt_irrefl _), if_pos (Nat.lt_succ_self _)]
    · rw [h n c]
      by_cases d : q < n
      · rw [if_pos d, if_pos (show q < n + 1 by omega)]; omega
      · rw [if_neg d, if_neg (show ¬ q < n + 1 by omega)]; omega
theorem cnS_rng {f : Nat → Int32} : ∀ n : Nat, 0 ≤ cnS f n ∧ cnS f n ≤ n := by
  intro n
  induction n with
  | zero => exact ⟨Int.le_refl _, Int.le_refl _⟩
  | succ n ih =>
    have e : cnS f (n + 1) = cnS f n + (if (f n).toInt = -1 then 0 else 1) := rfl
    rw [e]
    by_cases c : (f n).toInt = -1
    · rw [if_pos c]; omega
    · rw [if_neg c]; omega
/-- while seats are given: equal seats and counts of seats, all else as it was -/
noncomputable def SJ (b : Nat) (t : Int32) (σ0 ρ0 σ ρ : S2) : Prop := SE b t σ ρ ∧ ρ.1 17 t.toNatClampNeg = σ.1 (182 + 6 * b) 5 ∧ (∀ k i : Nat, k ≠ 182 + 6 * b + 4 → ¬ (k = 182 + 6 * b ∧ i = 5) → σ.1 k i = σ0.1 k i) ∧ (∀ k i : Nat, ¬ (k = 18 ∧ 1000 * t.toNatClampNeg ≤ i ∧ i < 1000 * t.toNatClampNeg + 1000) → ¬ (k = 17 ∧ i = t.toNatClampNeg) → ρ.1 k i = ρ0.1 k i) ∧ (σ.1 (182 + 6 * b) 5).toInt = cnS (σ.1 (182 + 6 * b + 4)) 1000
theorem SJ.put {σ0 ρ0 σ ρ : S2} {q : Nat} {x : Int32} (h : SJ b t σ0 ρ0 σ ρ) (hq : q < 1000) (hf : σ.1 (182 + 6 * b + 4) q = -1) (hx : x.toInt ≠ -1) : SJ b t σ0 ρ0 (ux_wI (ux_wI σ (182 + 6 * b + 4) q x) (182 + 6 * b) 5 (σ.1 (182 + 6 * b) 5 + 1)) (ux_wI (ux_wI ρ 18 (1000 * t.toNatClampNeg + q) x) 17 t.toNatClampNeg (ρ.1 17 t.toNatClampNeg + 1)) := by
  obtain ⟨a, c, d, e, g9⟩ := h
  have y1 := i_m1
  have z1 := i_1
  refine ⟨fun p hp => ?_, ?_, fun k i h1 h2 => ?_, fun k i h1 h2 => ?_, ?_⟩
  rotate_left 4
  · have rg := cnS_rng (f := σ.1 (182 + 6 * b + 4)) 1000
    rw [wI_eq]
    have s := cnS_put (f := σ.1 (182 + 6 * b + 4)) (f' := (ux_wI (ux_wI σ (182 + 6 * b + 4) q x) (182 + 6 * b) 5 (σ.1 (182 + 6 * b) 5 + 1)).1 (182 + 6 * b + 4)) (q := q) (fun p hp => by rw [wI_k _ _ _ _ (show 182 + 6 * b + 4 ≠ 182 + 6 * b by omega), wI_i _ _ _ hp]) (by rw [hf, y1]) (by rw [wI_k _ _ _ _ (show 182 + 6 * b + 4 ≠ 182 + 6 * b by omega), wI_eq]; exact hx) 1000
    rw [s, if_pos hq, i32_add (by omega) (by omega), g9, z1]
  · rw [wI_k _ _ _ _ (by decide), wI_k _ _ _ _ (show 182 + 6 * b + 4 ≠ 182 + 6 * b by omega)]
    by_cases w : p = q
    · rw [w, wI_eq, wI_eq]
    · rw [wI_i _ _ _ (show 1000 * t.toNatClampNeg + p ≠ 1000 * t.toNatClampNeg + q by omega), wI_i _ _ _ w]; exact a p hp
  · rw [wI_eq, wI_eq, c]
  · have g : (ux_wI σ (182 + 6 * b + 4) q x).1 k i = σ.1 k i := wI_k _ _ _ _ h1
    by_cases w : k = 182 + 6 * b
    · subst w
      rw [wI_i _ _ _ (fun q => h2 ⟨rfl, q⟩), g]; exact d _ i h1 h2
    · rw [wI_k _ _ _ _ w, g]; exact d k i h1 h2
  · have g : (ux_wI ρ 18 (1000 * t.toNatClampNeg + q) x).1 k i = ρ.1 k i := by
      by_cases w : k = 18
      · subst w
        exact wI_i _ _ _ (fun q2 => h1 ⟨rfl, by omega, by omega⟩)
      · exact wI_k _ _ _ _ w
    by_cases w : k = 17
    · subst w
      rw [wI_i _ _ _ (fun q => h2 ⟨rfl, q⟩), g]; exact e _ i h1 h2
    · rw [wI_k _ _ _ _ w, g]; exact e k i h1 h2
theorem mixed_eq {σ ρ : S2} {k j : Int32} : fX12_mixed ρ k j z = fX11_strewn τ σ (((k * 7919) + (j * 104729)) + z) := rfl
theorem seat_in {kc : S2 → Int32 → Int32 → Option (Unit × S2)} {km : S2 → Int32 → Int32 → Option (Unit × S2)} {σ0 ρ0 : S2} {P : Unit × S2 → Unit × S2 → Prop} {k n : Int32} (t0 : 0 ≤ t.toInt) (t1 : t.toInt ≤ 10) (k0 : 0 ≤ k.toInt) (k1 : k.toInt ≤ 11) (hz : ρ0.1 9 t.toNatClampNeg = z) (hn : 4 * σ0.1 (182 + 6 * b + 1) k.toNatClampNeg = n) (hs : ∀ (σ : S2) (x r : Int32), fX11_strewn τ σ x = some r → 0 ≤ r.toInt ∧ r.toInt ≤ 999) (hk : ∀ (σ ρ : S2) (a c : Unit × S2), SJ b t σ0 ρ0 σ ρ → kc σ z (k + 1) = some a → km ρ t (k + 1) = some c → P a c) : ∀ (N M : Nat) (σ ρ : S2) (j : Int32) (a c : Unit × S2), SJ b t σ0 ρ0 σ ρ → fX8_seatAll_33 τ b kc N σ z k j = some a → fX12_sits_75 km M ρ t k n j = some c → P a c := by
  intro N
  induction N with
  | zero => intro M σ ρ j a c _ h; cases h
  | succ N ih =>
    intro M σ ρ j a c hJ h h2
    cases M with
    | zero => cases h2
    | succ M =>
      have nk := i32_nat k0
      have key : Pt (fun c => P a c) (fX12_sits_75 km (M + 1) ρ t k n j) := by
        unfold fX8_seatAll_33 at h
        unfold fX12_sits_75
        obtain ⟨_, h⟩ := ckS h
        try dsimp only [nm] at h
        rw [hJ.2.2.1 (182 + 6 * b + 1) _ (by omega) (by omega), hn] at h
        by_cases q : n ≤ j
        · rw [if_pos q] at h
          rw [if_pos q]
          exact pt_nm (fun v8 e8 => fun z hz => hk σ ρ a z hJ h (by rw [e8] at hz; exact hz))
        rw [if_neg q] at h
        rw [if_neg q]
        refine pt_ck (fun _ _ _ => pt_nm (fun v9 e9 => ?_))
        have g9 : v9 = z := by rw [e9, hJ.2.2.2.1 9 _ (fun w => absurd w.1 (by decide)) (fun w => absurd w.1 (by decide)), hz]
        rw [g9]
        obtain ⟨r3, f3, h⟩ := biS h
        have b3 := hs _ _ _ f3
        refine pt_bi (P := fun r => r = r3) (fun r hr => ?_) (fun r10 e10 => ?_)
        · rw [mixed_eq (τ := τ) (σ := σ), f3] at hr
          exact (Option.some.inj hr).symm
        rw [e10]
        obtain ⟨r5, f5, h⟩ := biS h
        by_cases w : ∃ q : Nat, q < 1000 ∧ ρ.1 18 (1000 * t.toNatClampNeg + q) = -1
        · obtain ⟨d, r, hd, hF⟩ := ff_ex (f := fun p => ρ.1 18 (1000 * t.toNatClampNeg + p)) b3.1 b3.2 w
          have br : 0 ≤ r ∧ r < 1000 := by have := hF.2.1; omega
          have hF2 : FF (σ.1 (182 + 6 * b + 4)) r3.toInt d r := by
            obtain ⟨x1, x2, x3, x4⟩ := hF
            refine ⟨x1, x2, ?_, fun j j0 jd => ?_⟩
            · rw [← hJ.1 r.toNat (by omega)]; exact x3
            · rw [← hJ.1 _ (by omega)]; exact x4 j j0 jd
          unfold fX8_freeFrom fX8_freeFrom_0 at f5
          have e5 := c_free FU r3 0 d b3.1 b3.2 (by decide) (by rw [i_0]; omega) hF2 _ f5
          have n5 := i32_nat (i := r5) (by omega)
          refine m_sits95 (r := r) t0 t1 ?_ FU r3 d b3.1 b3.2 hF
          obtain ⟨_, h⟩ := ckS h
          try dsimp only [nm] at h
          have e7 : vp_nar .byte (Int8.toInt32 (Int32.toInt8 k)) = k := by
            have x1 := i32_i8 (v := k) (by omega) (by omega)
            exact Int32.toInt_inj.mp (by rw [i32_narb8 (by omega) (by omega), x1])
          rw [e7, show (ux_wI σ (182 + 6 * b + 4) r5.toNatClampNeg k).1 (182 + 6 * b) 5 = σ.1 (182 + 6 * b) 5 from wI_k _ _ _ _ (by omega), show r5.toNatClampNeg = r.toNat by omega] at h
          exact fun x hx => ih M _ _ (j + 1) a x (hJ.put (by omega) hF2.2.2.1 (by omega)) h hx
        · exact m_sits_full t0 t1 (fun p hp e => w ⟨p, hp, e⟩) FU r3 b3.1 b3.2
      exact key _ h2
end SEATS
section SEATS2
variable {τ b : Nat} {t z : Int32}
theorem strewn_rng {g : Nat} {σ1 : S2} (hI : IvC g τ σ1) (σ : S2) (x r : Int32) (h : fX11_strewn τ σ x = some r) : 0 ≤ r.toInt ∧ r.toInt ≤ 999 := by
  obtain ⟨q, hq, p⟩ := sX11_strewn τ σ1 x hI
  have h : fX11_strewn τ σ1 x = some r := h
  rw [h] at hq
  cases hq; exact p
theorem seat_33z {Q : Unit × S2 → Prop} {kc : S2 → Int32 → Int32 → Option (Unit × S2)} {σ : S2} {k : Int32} (hw : σ.1 (182 + 6 * b + 1) k.toNatClampNeg = 0) (kx : Pt Q (kc σ z (k + 1))) : ∀ N : Nat, Pt Q (fX8_seatAll_33 τ b kc N σ z k 0) := fun N => by
  cases N with
  | zero => exact pt_none
  | succ N =>
    unfold fX8_seatAll_33
    refine pt_ck (fun _ _ _ => pt_nm (fun v1 e1 => pt_if (fun _ => pt_nm (fun v2 e2 => by rw [e2]; exact kx)) (fun c => ?_)))
    rw [e1, hw] at c
    exact absurd (show 4 * (0 : Int32) ≤ 0 by decide) c
/-- behind the last keeper of the set the class seats nobody -/
theorem seat_tail {Q : Unit × S2 → Prop} {σ : S2} (kx : Pt Q (bs (fX8_linkPlaces τ b σ) (fun _ σ11 => some ((), σ11)))) : ∀ (N : Nat) (k : Int32), 0 ≤ k.toInt → k.toInt ≤ 12 → (∀ i : Nat, k.toInt ≤ (i : Int) → i < 12 → σ.1 (182 + 6 * b + 1) i = 0) → Pt Q (fX8_seatAll_25 τ b N σ z k) := by
  have z1 := i_1
  have z12 := i_12
  intro N
  induction N with
  | zero => intro k _ _ _; exact pt_none
  | succ N ih =>
    intro k k0 k1 hw
    have nk := i32_nat k0
    unfold fX8_seatAll_25
    refine pt_le (fun _ => kx) (fun h => seat_33z (hw _ (by omega) (by omega)) ?_ FU)
    have e : (k + 1).toInt = k.toInt + 1 := by rw [i32_add (by omega) (by omega)]; omega
    exact ih (k + 1) (by omega) (by omega) (fun i hi h12 => hw i (by omega) h12)
theorem seat_out {σ0 ρ0 : S2} (t0 : 0 ≤ t.toInt) (t1 : t.toInt ≤ 10) (hz : ρ0.1 9 t.toNatClampNeg = z) (n0 : 0 ≤ (ρ0.1 0 3).toInt) (n1 : (ρ0.1 0 3).toInt ≤ 12) (s0 : 0 ≤ (ρ0.1 8 t.toNatClampNeg).toInt) (s1 : (ρ0.1 8 t.toNatClampNeg).toInt.toNat < 2 ^ (ρ0.1 0 3).toInt.toNat) (hw : ∀ k : Nat, k < 12 → σ0.1 (182 + 6 * b + 1) k = if (ρ0.1 8 t.toNatClampNeg).toInt.toNat.testBit k then ρ0.1 15 (12 * t.toNatClampNeg + k) else 0) (hs : ∀ (σ : S2) (x r : Int32), fX11_strewn τ σ x = some r → 0 ≤ r.toInt ∧ r.toInt ≤ 999) : ∀ (N M : Nat) (σ ρ : S2) (k : Int32) (a c : Unit × S2), SJ b t σ0 ρ0 σ ρ → 0 ≤ k.toInt → k.toInt ≤ (ρ0.1 0 3).toInt → fX8_seatAll_25 τ b N σ z k = some a → fX12_sits_37 M ρ t k = some c → ∃ σ1 : S2, SJ b t σ0 ρ0 σ1 c.2 ∧ bs (fX8_linkPlaces τ b σ1) (fun _ σ11 => some ((), σ11)) = some a := by
  have z1 := i_1
  have z12 := i_12
  have m4 : (ρ0.1 8 t.toNatClampNeg).toInt ≤ 4095 := by
    have : 2 ^ (ρ0.1 0 3).toInt.toNat ≤ 2 ^ 12 := Nat.pow_le_pow_right (by decide) (by omega)
    have e : 2 ^ 12 = 4096 := by decide
    omega
  intro N
  induction N with
  | zero => intro M σ ρ k a c _ _ _ h; cases h
  | succ N ih =>
    intro M σ ρ k a c hJ k0 kn h h2
    cases M with
    | zero => cases h2
    | succ M =>
      have nk := i32_nat k0
      have nt := i32_nat t0
      have e3 : ρ.1 0 3 = ρ0.1 0 3 := hJ.2.2.2.1 0 3 (fun w => absurd w.1 (by decide)) (fun w => absurd w.1 (by decide))
      have e8 : ρ.1 8 t.toNatClampNeg = ρ0.1 8 t.toNatClampNeg := hJ.2.2.2.1 8 _ (fun w => absurd w.1 (by decide)) (fun w => absurd w.1 (by decide))
      have ew : ∀ i : Nat, σ.1 (182 + 6 * b + 1) i = σ0.1 (182 + 6 * b + 1) i := fun i => hJ.2.2.1 _ i (by omega) (by omega)
      by_cases q : ρ.1 0 3 ≤ k
      · have q' := Int32.le_iff_toInt_le.mp q
        rw [e3] at q'
        unfold fX12_sits_37 at h2
        rw [if_pos q] at h2
        cases h2
        refine ⟨σ, hJ, seat_tail (Q := fun z => bs (fX8_linkPlaces τ b σ) (fun _ σ11 => some ((), σ11)) = some z) (fun z hz => hz) (N + 1) k k0 (by omega) (fun i hi h12 => ?_) _ h⟩
        rw [ew, hw i h12, Nat.testBit_lt_two_pow (Nat.lt_of_lt_of_le s1 (Nat.pow_le_pow_right (by decide) (by omega)))]
        rfl
      · have q' : ¬ (ρ.1 0 3).toInt ≤ k.toInt := fun w => q (Int32.le_iff_toInt_le.mpr w)
        rw [e3] at q'
        have e4 : (k + 1).toInt = k.toInt + 1 := by rw [i32_add (by omega) (by omega)]; omega
        unfold fX8_seatAll_25 at h
        rw [if_neg (fun w => by have := Int32.le_iff_toInt_le.mp w; omega)] at h
        unfold fX12_sits_37 fX12_sits_71 at h2
        rw [if_neg q] at h2
        obtain ⟨r12, f12, h2⟩ := biS h2
        have e12 := isIn_q f12 (by rw [e8]; exact s0) (by rw [e8]; exact m4) k0 (by omega)
        rw [e8] at e12
        have wk := hw k.toNatClampNeg (by omega)
        have hk : ∀ (σ ρ : S2) (a c : Unit × S2), SJ b t σ0 ρ0 σ ρ → fX8_seatAll_25 τ b N σ z (k + 1) = some a → fX12_sits_37 M ρ t (k + 1) = some c → ∃ σ1 : S2, SJ b t σ0 ρ0 σ1 c.2 ∧ bs (fX8_linkPlaces τ b σ1) (fun _ σ11 => some ((), σ11)) = some a := fun σ ρ a c hJ ha hc => ih M σ ρ (k + 1) a c hJ (by omega) (by omega) ha hc
        cases qb : (ρ0.1 8 t.toNatClampNeg).toInt.toNat.testBit k.toNatClampNeg
        · rw [qb, if_neg (by decide)] at e12 wk
          rw [if_pos e12] at h2
          exact seat_in t0 t1 k0 (by omega) hz (by rw [wk]; rfl) hs hk FU FU σ ρ 0 a c hJ h h2
        · rw [qb, if_pos rfl] at e12 wk
          rw [if_neg (by rw [e12]; decide)] at h2
          obtain ⟨_, h2⟩ := ckS h2
          have e12' : (12 : Int32).toInt = 12 := rfl
          have m12 := i32_mulL (a := 12) (b := t) e12' (by omega) (by omega)
          have ix : (12 * t + k).toInt = 12 * t.toInt + k.toInt := by rw [i32_add (by omega) (by omega)]; omega
          have nx := i32_nat (i := 12 * t + k) (by omega)
          have ex : (12 * t + k).toNatClampNeg = 12 * t.toNatClampNeg + k.toNatClampNeg := by omega
          try dsimp only [nm] at h2
          rw [ex, hJ.2.2.2.1 15 _ (fun w => absurd w.1 (by decide)) (fun w => absurd w.1 (by decide))] at h2
          exact seat_in t0 t1 k0 (by omega) hz (by rw [wk]) hs hk FU FU σ ρ 0 a c hJ h h2
end SEATS2
