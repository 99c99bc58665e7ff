/-! taken and lies -/
section LAST
variable {σ ρ : S2} {τ : Nat} {a b c d r q : Int32}
theorem iu_step {n : Nat} {k v w x3 : Int32} (h0 : 0 ≤ v.toInt) (h6 : v.toInt ≤ 6) (h3 : x3.toInt < 7) (hw : kaI v.toNatClampNeg = w) : fX11_isUnder_4 τ (n + 1) σ k v x3 = if v = k then some 1 else fX11_isUnder_4 τ n σ k w (x3 + 1) := by
  have z0 := i_0
  have z7 : (7 : Int32).toInt = 7 := rfl
  have e1 : ¬ (7 : Int32) ≤ x3 := fun q => by have := Int32.le_iff_toInt_le.mp q; omega
  have e2 : ¬ v < 0 := fun q => by have := Int32.lt_iff_toInt_lt.mp q; omega
  have e3 : ¬ (7 : Int32) ≤ v := fun q => by have := Int32.le_iff_toInt_le.mp q; omega
  have nv := i32_nat h0
  have c7 : ∀ {K : Option Int32}, ck 7 v K = K := fun {K} => by
    unfold ck
    rw [if_neg (fun q => q.elim e2 (fun q => by omega))]
  rw [show fX11_isUnder_4 τ (n + 1) σ k v x3 = (if 7 ≤ x3 then some (0) else if v < 0 then some (0) else if 7 ≤ v then some (0) else if v = k then some (1) else ck 7 v (nm (kaI (Int32.toNatClampNeg v)) (fun v1 => nm (x3 + 1) (fun v2 => fX11_isUnder_4 τ n σ k v1 v2)))) from rfl, if_neg e1, if_neg e2, if_neg e3, c7, hw]
  rfl
theorem iu_end {n : Nat} {k x3 : Int32} (h3 : x3.toInt < 7) : fX11_isUnder_4 τ (n + 1) σ k (-1) x3 = some 0 := by
  have z7 : (7 : Int32).toInt = 7 := rfl
  have e1 : ¬ (7 : Int32) ≤ x3 := fun q => by have := Int32.le_iff_toInt_le.mp q; omega
  rw [show fX11_isUnder_4 τ (n + 1) σ k (-1) x3 = (if 7 ≤ x3 then some (0) else if (-1 : Int32) < 0 then some (0) else if 7 ≤ (-1 : Int32) then some (0) else if (-1 : Int32) = k then some (1) else ck 7 (-1) (nm (kaI (Int32.toNatClampNeg (-1))) (fun v1 => nm (x3 + 1) (fun v2 => fX11_isUnder_4 τ n σ k v1 v2)))) from rfl, if_neg e1, if_pos (by decide)]
/-- a kind is under k: itself, k = 0, or FULL under STRONG -/
theorem iu {k v : Int32} (h0 : 0 ≤ v.toInt) (h6 : v.toInt ≤ 6) : fX11_isUnder τ σ v k = some (if k = 0 ∨ k = v ∨ (k = 1 ∧ v = 6) then 1 else 0) := by
  have z0 := i_0
  have tail : ∀ (n : Nat) (x3 : Int32), x3.toInt < 5 → 0 ≤ x3.toInt → fX11_isUnder_4 τ (n + 2) σ k 0 x3 = some (if k = 0 then 1 else 0) := fun n x3 h5 h9 => by
    have z1 := i_1
    have e4 : (x3 + 1).toInt = x3.toInt + 1 := by rw [i32_add (by omega) (by omega)]; omega
    rw [iu_step (w := -1) (by decide) (by decide) (by omega) rfl, iu_end (by omega)]
    by_cases c : k = 0
    · rw [if_pos c, if_pos c.symm]
    · rw [if_neg c, if_neg (fun q => c q.symm)]
  have mid : ∀ (n : Nat) (x3 : Int32), x3.toInt < 4 → 0 ≤ x3.toInt → ∀ u : Int32, 1 ≤ u.toInt → u.toInt ≤ 5 → kaI u.toNatClampNeg = 0 → fX11_isUnder_4 τ (n + 3) σ k u x3 = some (if k = 0 ∨ k = u then 1 else 0) := fun n x3 h5 h9 u u1 u5 hu => by
    have z1 := i_1
    have e4 : (x3 + 1).toInt = x3.toInt + 1 := by rw [i32_add (by omega) (by omega)]; omega
    rw [iu_step (w := 0) (by omega) (by omega) (by omega) hu, tail n (x3 + 1) (by omega) (by omega)]
    by_cases c : u = k
    · rw [if_pos c, if_pos (Or.inr c.symm)]
    · rw [if_neg c]
      by_cases c2 : k = 0
      · rw [if_pos c2, if_pos (Or.inl c2)]
      · rw [if_neg c2, if_neg (fun q => q.elim c2 (fun q => c q.symm))]
  have hv : v = 0 ∨ (1 ≤ v.toInt ∧ v.toInt ≤ 5 ∧ kaI v.toNatClampNeg = 0) ∨ v = 6 := by
    have i3 : (3 : Int32).toInt = 3 := rfl
    have : v.toInt = 0 ∨ v.toInt = 1 ∨ v.toInt = 2 ∨ v.toInt = 3 ∨ v.toInt = 4 ∨ v.toInt = 5 ∨ v.toInt = 6 := by omega
    rcases this with h | h | h | h | h | h | h
    · exact Or.inl (Int32.toInt_inj.mp h)
    · have : v = 1 := Int32.toInt_inj.mp h
      subst this; exact Or.inr (Or.inl ⟨by decide, by decide, rfl⟩)
    · have : v = 2 := Int32.toInt_inj.mp h
      subst this; exact Or.inr (Or.inl ⟨by decide, by decide, rfl⟩)
    · have : v = 3 := Int32.toInt_inj.mp h
      subst this; exact Or.inr (Or.inl ⟨by decide, by decide, rfl⟩)
    · have : v = 4 := Int32.toInt_inj.mp h
      subst this; exact Or.inr (Or.inl ⟨by decide, by decide, rfl⟩)
    · have : v = 5 := Int32.toInt_inj.mp h
      subst this; exact Or.inr (Or.inl ⟨by decide, by decide, rfl⟩)
    · exact Or.inr (Or.inr (Int32.toInt_inj.mp h))
  show fX11_isUnder_4 τ (99996 + 4) σ k v 0 = _
  rcases hv with h | h | h
  · subst h
    rw [show (99996 + 4 : Nat) = 99998 + 2 from rfl, tail _ _ (by decide) (by decide)]
    by_cases c : k = 0
    · rw [if_pos c, if_pos (Or.inl c)]
    · rw [if_neg c, if_neg (fun q => q.elim c (fun q => q.elim c (fun q => absurd q.2 (by decide))))]
  · have n6 : v ≠ 6 := fun q => by rw [q] at h; exact absurd h.2.1 (by decide)
    rw [show (99996 + 4 : Nat) = 99997 + 3 from rfl, mid _ _ (by decide) (by decide) v h.1 h.2.1 h.2.2]
    by_cases c : k = 0 ∨ k = v
    · rw [if_pos c, if_pos (c.elim Or.inl (fun q => Or.inr (Or.inl q)))]
    · rw [if_neg c, if_neg (fun q => q.elim (fun q => c (Or.inl q)) (fun q => q.elim (fun q => c (Or.inr q)) (fun q => n6 q.2)))]
  · subst h
    rw [show (99996 + 4 : Nat) = (99996 + 3) + 1 from rfl, iu_step (w := 1) (by decide) (by decide) (by decide) rfl, mid _ _ (by decide) (by decide) 1 (by decide) (by decide) rfl]
    by_cases c : (6 : Int32) = k
    · rw [if_pos c, if_pos (Or.inr (Or.inl c.symm))]
    · rw [if_neg c]
      by_cases c2 : k = 0 ∨ k = 1
      · rw [if_pos c2, if_pos (c2.elim Or.inl (fun q => Or.inr (Or.inr ⟨q, rfl⟩)))]
      · rw [if_neg c2, if_neg (fun q => q.elim (fun q => c2 (Or.inl q)) (fun q => q.elim (fun q => c q.symm) (fun q => c2 (Or.inr q.1))))]
theorem an_taken (hR : RelA σ ρ) (hI : IvC 0 τ σ) (hM : IvM 0 ρ) (h : fX11_taken τ σ a b = some r) (h2 : fX12_taken ρ a b = some q) : r = q := by
  have z0 := i_0
  have z6 := i_6
  obtain ⟨hk, hF, hA, hS, hE⟩ := hR
  unfold fX11_taken fX11_taken_0 at h
  unfold fX12_taken fX12_taken_0 at h2
  obtain ⟨r1, e1, h⟩ := biS h
  obtain ⟨r2, e2, h2⟩ := biS h2
  have e1 := q_shelf _ e1
  have e2 := q_shelfM _ e2
  by_cases c1 : r1 = 0
  · have c1' : r1.toInt = 0 := by rw [c1]; rfl
    have c2 : r2 = 0 := Int32.toInt_inj.mp (by rw [z0]; omega)
    rw [if_pos c1] at h; rw [if_pos c2] at h2
    cases h; cases h2; rfl
  have c1' : r1.toInt ≠ 0 := fun w => c1 (Int32.toInt_inj.mp w)
  have c2 : ¬ r2 = 0 := fun w => by rw [w] at e2; omega
  rw [if_neg c1] at h; rw [if_neg c2] at h2
  have sa : 0 ≤ a.toInt ∧ a.toInt ≤ 5 := by omega
  obtain ⟨r3, e3, h⟩ := biS h
  obtain ⟨r4, e4, h2⟩ := biS h2
  have e3 := q_kind _ e3
  have e4 := q_in _ e4
  by_cases c3 : r3 = 0
  · have c3' : r3.toInt = 0 := by rw [c3]; rfl
    have c4 : r4 = 0 := Int32.toInt_inj.mp (by rw [z0]; omega)
    rw [if_pos c3] at h; rw [if_pos c4] at h2
    cases h; cases h2; rfl
  have c3' : r3.toInt ≠ 0 := fun w => c3 (Int32.toInt_inj.mp w)
  have c4 : ¬ r4 = 0 := fun w => by rw [w] at e4; omega
  rw [if_neg c3] at h; rw [if_neg c4] at h2
  have na := i32_nat sa.1
  obtain ⟨s1, s2, s3, s4⟩ := hS a.toNatClampNeg (by omega)
  have b39 : -1 ≤ (σ.1 39 a.toNatClampNeg).toInt ∧ (σ.1 39 a.toNatClampNeg).toInt ≤ 4 := hI.1 39 _
  have b38 : -1 ≤ (σ.1 38 a.toNatClampNeg).toInt ∧ (σ.1 38 a.toNatClampNeg).toInt ≤ 11 := by have := hM.1 30 a.toNatClampNeg; rw [s1] at this; exact this
  obtain ⟨r5, e5, h⟩ := biS h
  have e5 := q_empty _ e5
  obtain ⟨_, h2⟩ := ckS h2
  have h2 : (if 0 ≤ ρ.1 31 a.toNatClampNeg then fX12_taken_40 ρ a b else ck 6 a (nm (ρ.1 30 a.toNatClampNeg) (fun v9 => if 0 ≤ v9 then fX12_taken_40 ρ a b else some (-11)))) = some q := h2
  have s3' : (σ.1 39 a.toNatClampNeg).toInt ≠ -1 → (σ.1 38 a.toNatClampNeg).toInt = -1 := fun w => by
    rw [(s3 (fun e => w (by rw [e]; rfl))).2]; rfl
  rw [s2] at h2
  by_cases c5 : r5 = 0
  · rw [if_pos c5] at h
    have c5' : r5.toInt = 0 := by rw [c5]; rfl
    have h40 : fX12_taken_40 ρ a b = some q := by
      by_cases k : (0 : Int32) ≤ σ.1 39 a.toNatClampNeg
      · rw [if_pos k] at h2; exact h2
      · rw [if_neg k] at h2
        have k' : ¬ 0 ≤ (σ.1 39 a.toNatClampNeg).toInt := fun w => k (Int32.le_iff_toInt_le.mpr w)
        obtain ⟨_, h2⟩ := ckS h2
        have h2 : (if 0 ≤ ρ.1 30 a.toNatClampNeg then fX12_taken_40 ρ a b else some (-11)) = some q := h2
        rw [s1, if_pos (Int32.le_iff_toInt_le.mpr (by rw [z0]; omega))] at h2
        exact h2
    unfold fX12_taken_40 fX12_taken_84 at h40
    obtain ⟨_, h40⟩ := ckS h40
    obtain ⟨_, h⟩ := ckS h
    have h40 : (if 0 ≤ ρ.1 30 a.toNatClampNeg then ck 6 a (nm (ρ.1 30 a.toNatClampNeg) (fun v2 => ck 12 v2 (nm (ρ.1 5 v2.toNatClampNeg) (fun v3 => if b = 0 then some v3 else if b = v3 then some v3 else if b = 1 then if v3 = 6 then some v3 else some (-12) else some (-12))))) else some (-12)) = some q := h40
    have h : bi (fX2_has τ σ (σ.1 38 a.toNatClampNeg)) (fun r8 => if r8 = 0 then some (-12) else ck 12 (σ.1 38 a.toNatClampNeg) (nm (σ.1 8 (σ.1 38 a.toNatClampNeg).toNatClampNeg) (fun v10 => bi (fX11_isUnder τ σ v10 b) (fun r11 => if r11 = 0 then some (-12) else some v10)))) = some r := h
    obtain ⟨r6, e6, h⟩ := biS h
    have e6 := q_has _ e6
    rw [s1] at h40
    by_cases k : (0 : Int32) ≤ σ.1 38 a.toNatClampNeg
    · have k' := Int32.le_iff_toInt_le.mp k
      rw [z0] at k'
      have c6 : ¬ r6 = 0 := fun w => by rw [w] at e6; omega
      rw [if_neg c6] at h
      rw [if_pos k] at h40
      obtain ⟨_, h⟩ := ckS h
      have h : bi (fX11_isUnder τ σ (σ.1 8 (σ.1 38 a.toNatClampNeg).toNatClampNeg) b) (fun r11 => if r11 = 0 then some (-12) else some (σ.1 8 (σ.1 38 a.toNatClampNeg).toNatClampNeg)) = some r := h
      obtain ⟨_, h40⟩ := ckS h40
      have h40 : ck 12 (σ.1 38 a.toNatClampNeg) (nm (ρ.1 5 (σ.1 38 a.toNatClampNeg).toNatClampNeg) (fun v3 => if b = 0 then some v3 else if b = v3 then some v3 else if b = 1 then if v3 = 6 then some v3 else some (-12) else some (-12))) = some q := h40
      obtain ⟨_, h40⟩ := ckS h40
      have h40 : (if b = 0 then some (ρ.1 5 (σ.1 38 a.toNatClampNeg).toNatClampNeg) else if b = ρ.1 5 (σ.1 38 a.toNatClampNeg).toNatClampNeg then some (ρ.1 5 (σ.1 38 a.toNatClampNeg).toNatClampNeg) else if b = 1 then if ρ.1 5 (σ.1 38 a.toNatClampNeg).toNatClampNeg = 6 then some (ρ.1 5 (σ.1 38 a.toNatClampNeg).toNatClampNeg) else some (-12) else some (-12)) = some q := h40
      rw [hk.2.1] at h40
      have bk : 0 ≤ (σ.1 8 (σ.1 38 a.toNatClampNeg).toNatClampNeg).toInt ∧ (σ.1 8 (σ.1 38 a.toNatClampNeg).toNatClampNeg).toInt ≤ 6 := hI.1 8 _
      generalize σ.1 8 (σ.1 38 a.toNatClampNeg).toNatClampNeg = v at h h40 bk
      rw [iu bk.1 bk.2] at h
      have h : (if (if b = 0 ∨ b = v ∨ (b = 1 ∧ v = 6) then (1 : Int32) else 0) = 0 then some (-12) else some v) = some r := h
      by_cases k0 : b = 0
      · rw [if_pos k0] at h40
        rw [if_pos (Or.inl k0), if_neg (by decide)] at h
        cases h; cases h40; rfl
      rw [if_neg k0] at h40
      by_cases k1 : b = v
      · rw [if_pos k1] at h40
        rw [if_pos (Or.inr (Or.inl k1)), if_neg (by decide)] at h
        cases h; cases h40; rfl
      rw [if_neg k1] at h40
      by_cases k2 : b = 1
      · rw [if_pos k2] at h40
        by_cases k3 : v = 6
        · rw [if_pos k3] at h40
          rw [if_pos (Or.inr (Or.inr ⟨k2, k3⟩)), if_neg (by decide)] at h
          cases h; cases h40; rfl
        · rw [if_neg k3] at h40
          rw [if_neg (show ¬ (b = 0 ∨ b = v ∨ (b = 1 ∧ v = 6)) from fun w => w.elim k0 (fun w => w.elim k1 (fun w => k3 w.2))), if_pos rfl] at h
          cases h; cases h40; rfl
      · rw [if_neg k2] at h40
        rw [if_neg (show ¬ (b = 0 ∨ b = v ∨ (b = 1 ∧ v = 6)) from fun w => w.elim k0 (fun w => w.elim k1 (fun w => k2 w.1))), if_pos rfl] at h
        cases h; cases h40; rfl
    · have k' : ¬ 0 ≤ (σ.1 38 a.toNatClampNeg).toInt := fun w => k (Int32.le_iff_toInt_le.mpr w)
      rw [if_neg k] at h40
      have c6 : r6 = 0 := Int32.toInt_inj.mp (by rw [z0]; omega)
      rw [if_pos c6] at h
      cases h; cases h40; rfl
  · rw [if_neg c5] at h
    have c5' : r5.toInt ≠ 0 := fun w => c5 (Int32.toInt_inj.mp w)
    rw [if_neg (fun w => by have := Int32.le_iff_toInt_le.mp w; omega)] at h2
    obtain ⟨_, h2⟩ := ckS h2
    have h2 : (if 0 ≤ ρ.1 30 a.toNatClampNeg then fX12_taken_40 ρ a b else some (-11)) = some q := h2
    rw [s1, if_neg (fun w => by have := Int32.le_iff_toInt_le.mp w; omega)] at h2
    cases h; cases h2; rfl
theorem an_lies (hR : RelA σ ρ) (hM : IvM 0 ρ) (h : fX11_lies τ σ a b c d = some r) (h2 : fX12_lies ρ a b c d = some q) : r = q := by
  have z0 := i_0
  have z1 := i_1
  have z99 : (99 : Int32).toInt = 99 := rfl
  have y1 := i_m1
  obtain ⟨hk, hF, hA, hS, hE⟩ := hR
  have p1 : Pt (fun r => (r.toInt = -1 ∧ ¬ ((0 ≤ a.toInt ∧ a.toInt < (σ.1 7 5).toInt) ∧ (0 ≤ b.toInt ∧ b.toInt ≤ c.toInt) ∧ (1 ≤ c.toInt ∧ c.toInt ≤ 99) ∧ (0 ≤ d.toInt ∧ d.toInt ≤ 1))) ∨ (((0 ≤ a.toInt ∧ a.toInt < (σ.1 7 5).toInt) ∧ (0 ≤ b.toInt ∧ b.toInt ≤ c.toInt) ∧ (1 ≤ c.toInt ∧ c.toInt ≤ 99) ∧ (0 ≤ d.toInt ∧ d.toInt ≤ 1)) ∧ r = (if d = 0 then (if 1 < (((σ.1 10 a.toNatClampNeg * (c - b)) + c - 1) / c) then (((σ.1 10 a.toNatClampNeg * (c - b)) + c - 1) / c) else 1) else 4 * (σ.1 10 a.toNatClampNeg - (if 1 < (((σ.1 10 a.toNatClampNeg * (c - b)) + c - 1) / c) then (((σ.1 10 a.toNatClampNeg * (c - b)) + c - 1) / c) else 1))))) (fX11_lies τ σ a b c d) := by
    unfold fX11_lies fX11_lies_0
    refine pt_bi q_has (fun r1 h1 => ?_)
    refine pt_eq (fun g => pt_some (Or.inl ⟨y1, by omega⟩)) (fun g1 => ?_)
    refine pt_lt (fun g => pt_some (Or.inl ⟨y1, by omega⟩)) (fun g2 => ?_)
    refine pt_lt (fun g => pt_some (Or.inl ⟨y1, by omega⟩)) (fun g3 => ?_)
    refine pt_le (fun g4 => ?_) (fun g => pt_some (Or.inl ⟨y1, by omega⟩))
    refine pt_lt (fun g => pt_some (Or.inl ⟨y1, by omega⟩)) (fun g5 => ?_)
    refine pt_lt (fun g => pt_some (Or.inl ⟨y1, by omega⟩)) (fun g6 => ?_)
    refine pt_le (fun g7 => ?_) (fun g => pt_some (Or.inl ⟨y1, by omega⟩))
    refine pt_ck (fun _ _ _ => pt_nm (fun v e => ?_))
    subst e
    refine pt_bi (P := fun r => r = (((σ.1 10 a.toNatClampNeg * (c - b)) + c - 1) / c)) ?_ (fun r4 e4 => ?_)
    · unfold fX11_upward fX11_upward_0
      refine pt_le (fun g => absurd g (by omega)) (fun g => ?_)
      exact pt_dz (fun _ => pt_some rfl)
    · subst e4
      refine pt_nm (fun v e => ?_)
      subst e
      refine pt_if (fun k => pt_some (Or.inr ⟨by omega, ?_⟩)) (fun k => pt_some (Or.inr ⟨by omega, ?_⟩))
      · rw [if_pos k]
      · rw [if_neg k]
  have p2 : Pt (fun r => (r.toInt = -1 ∧ ¬ ((0 ≤ a.toInt ∧ a.toInt < (ρ.1 0 3).toInt) ∧ (0 ≤ b.toInt ∧ b.toInt ≤ c.toInt) ∧ (1 ≤ c.toInt ∧ c.toInt ≤ 99) ∧ (0 ≤ d.toInt ∧ d.toInt ≤ 1))) ∨ (((0 ≤ a.toInt ∧ a.toInt < (ρ.1 0 3).toInt) ∧ (0 ≤ b.toInt ∧ b.toInt ≤ c.toInt) ∧ (1 ≤ c.toInt ∧ c.toInt ≤ 99) ∧ (0 ≤ d.toInt ∧ d.toInt ≤ 1)) ∧ r = (if d = 0 then (if 1 < (((ρ.1 4 a.toNatClampNeg * (c - b)) + c - 1) / c) then (((ρ.1 4 a.toNatClampNeg * (c - b)) + c - 1) / c) else 1) else 4 * (ρ.1 4 a.toNatClampNeg - (if 1 < (((ρ.1 4 a.toNatClampNeg * (c - b)) + c - 1) / c) then (((ρ.1 4 a.toNatClampNeg * (c - b)) + c - 1) / c) else 1))))) (fX12_lies ρ a b c d) := by
    unfold fX12_lies fX12_lies_0
    refine pt_bi (q_keeperM hM) (fun r1 h1 => ?_)
    refine pt_eq (fun g => pt_some (Or.inl ⟨y1, by omega⟩)) (fun g1 => ?_)
    refine pt_bi q_in (fun r2 h2 => ?_)
    refine pt_eq (fun g => ?_) (fun g2 => ?_)
    · refine pt_some (Or.inl ⟨y1, by omega⟩)
    refine pt_bi q_in (fun r3 h3 => ?_)
    refine pt_eq (fun g => pt_some (Or.inl ⟨y1, by omega⟩)) (fun g3 => ?_)
    refine pt_lt (fun g => pt_some (Or.inl ⟨y1, by omega⟩)) (fun g4 => ?_)
    refine pt_bi q_in (fun r4 h4 => ?_)
    refine pt_eq (fun g => pt_some (Or.inl ⟨y1, by omega⟩)) (fun g5 => ?_)
    refine pt_ck (fun _ _ _ => pt_nm (fun v e => ?_))
    subst e
    refine pt_dz (fun _ => pt_nm (fun v e => ?_))
    have k75 : ∀ s0 : Int32, Pt (fun r => r = if d = 0 then s0 else 4 * (ρ.1 4 a.toNatClampNeg - s0)) (fX12_lies_75 ρ a d s0) := fun s0 => by
      unfold fX12_lies_75
      refine pt_if (fun k => pt_some ?_) (fun k => pt_ck (fun _ _ _ => pt_nm (fun v e => pt_some ?_)))
      · rw [if_pos k]
      · rw [if_neg k, e]
    have hv : (if 1 < v then v else 1) = (if 1 ≤ v then v else 1) := by
      by_cases k : 1 ≤ v
      · rw [if_pos k]
        by_cases k2 : 1 < v
        · rw [if_pos k2]
        · rw [if_neg k2]
          have a1 := Int32.le_iff_toInt_le.mp k
          have a2 : ¬ (1 : Int32).toInt < v.toInt := fun w => k2 (Int32.lt_iff_toInt_lt.mpr w)
          exact Int32.toInt_inj.mp (by omega)
      · rw [if_neg k, if_neg (fun w => k (Int32.le_iff_toInt_le.mpr (Int.le_of_lt (Int32.lt_iff_toInt_lt.mp w))))]
    refine pt_if (fun k => pt_mono (k75 v) (fun r hr => Or.inr ⟨by omega, ?_⟩)) (fun k => pt_mono (k75 1) (fun r hr => Or.inr ⟨by omega, ?_⟩))
    · rw [hr, ← e, hv, if_pos k]
    · rw [hr, ← e, hv, if_neg k]
  have p1 := p1 _ h
  have p2 := p2 _ h2
  rw [hk.1, hk.2.2.2.2] at p2
  rcases p1 with ⟨e, p1⟩ | ⟨g, e⟩ <;> rcases p2 with ⟨d2, p2⟩ | ⟨f, d2⟩
  · exact Int32.toInt_inj.mp (by rw [e, d2])
  · exact absurd f p1
  · exact absurd g p2
  · rw [e, d2]
end LAST
