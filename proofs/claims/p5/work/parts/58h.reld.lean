/-! shelves and rows -/
theorem el_ix {a i : Int32} (h0 : 0 ≤ a.toInt) (h1 : a.toInt ≤ 5) (h2 : 0 ≤ i.toInt) (h3 : i.toInt ≤ 60) : ((60 * a + i).toInt = 60 * a.toInt + i.toInt) ∧ (60 * a + i).toNatClampNeg = 60 * a.toNatClampNeg + i.toNatClampNeg := by
  have e60 : (60 : Int32).toInt = 60 := rfl
  have m := i32_mulL (a := 60) (b := a) e60 (by omega) (by omega)
  have s : (60 * a + i).toInt = 60 * a.toInt + i.toInt := by rw [i32_add (by omega) (by omega)]; omega
  have n1 := i32_nat h0
  have n2 := i32_nat h2
  have n3 := i32_nat (i := 60 * a + i) (by omega)
  exact ⟨s, by omega⟩
section SHELVES
variable {σ ρ : S2} {τ : Nat} {a b c : Int32}
theorem c_keep : Pt (fun z => (z.2 = σ ∧ z.1.toInt = -1 ∧ ¬ ((0 ≤ a.toInt ∧ a.toInt ≤ 5) ∧ (b.toInt = -1 ∨ (0 ≤ b.toInt ∧ b.toInt < (σ.1 7 5).toInt)))) ∨ (((0 ≤ a.toInt ∧ a.toInt ≤ 5) ∧ (b.toInt = -1 ∨ (0 ≤ b.toInt ∧ b.toInt < (σ.1 7 5).toInt))) ∧ z.1.toInt = 1 ∧ z.2 = ux_wI (ux_wI (ux_wI σ 38 a.toNatClampNeg b) 39 a.toNatClampNeg (-1)) 40 a.toNatClampNeg 0)) (fX11_keep τ σ a b) := by
  have z0 := i_0
  have y1 := i_m1
  have k25 : Pt (fun z : Int32 × S2 => z.1.toInt = 1 ∧ z.2 = ux_wI (ux_wI (ux_wI σ 38 a.toNatClampNeg b) 39 a.toNatClampNeg (-1)) 40 a.toNatClampNeg 0) (fX11_keep_25 τ σ a b) := by
    unfold fX11_keep_25
    refine pt_bs (P := fun z => z.2 = ux_wI (ux_wI (ux_wI σ 38 a.toNatClampNeg b) 39 a.toNatClampNeg (-1)) 40 a.toNatClampNeg 0) ?_ (fun r s h => pt_some ⟨rfl, h⟩)
    unfold fX7_holdKeeper fX7_holdKeeper_0
    exact pt_ck (fun _ _ _ => pt_ck (fun _ _ _ => pt_ck (fun _ _ _ => pt_some rfl)))
  unfold fX11_keep fX11_keep_0
  refine pt_bi q_shelf (fun r hr => ?_)
  refine pt_eq (fun h => pt_some (Or.inl ⟨rfl, y1, by omega⟩)) (fun h1 => ?_)
  refine pt_eq (fun h2 => pt_mono k25 (fun z hz => Or.inr ⟨by omega, hz⟩)) (fun h2 => ?_)
  refine pt_bi q_has (fun r2 hr2 => ?_)
  exact pt_eq (fun h => pt_some (Or.inl ⟨rfl, y1, by omega⟩)) (fun h3 => pt_mono k25 (fun z hz => Or.inr ⟨by omega, hz⟩))
theorem m_keep (hM : IvM 0 ρ) : Pt (fun z => (z.2 = ρ ∧ z.1.toInt = -1 ∧ ¬ ((0 ≤ a.toInt ∧ a.toInt ≤ 5) ∧ (b.toInt = -1 ∨ (0 ≤ b.toInt ∧ b.toInt < (ρ.1 0 3).toInt)))) ∨ (((0 ≤ a.toInt ∧ a.toInt ≤ 5) ∧ (b.toInt = -1 ∨ (0 ≤ b.toInt ∧ b.toInt < (ρ.1 0 3).toInt))) ∧ z.1.toInt = 1 ∧ z.2 = ux_wI (ux_wI ρ 30 a.toNatClampNeg b) 31 a.toNatClampNeg (-1))) (fX12_keep ρ a b) := by
  have z0 := i_0
  have y1 := i_m1
  have k25 : Pt (fun z : Int32 × S2 => z.1.toInt = 1 ∧ z.2 = ux_wI (ux_wI ρ 30 a.toNatClampNeg b) 31 a.toNatClampNeg (-1)) (fX12_keep_22 ρ a b) := by
    unfold fX12_keep_22
    exact pt_ck (fun _ _ _ => pt_ck (fun _ _ _ => pt_some ⟨rfl, rfl⟩))
  unfold fX12_keep fX12_keep_0
  refine pt_bi q_shelfM (fun r hr => ?_)
  refine pt_eq (fun h => pt_some (Or.inl ⟨rfl, y1, by omega⟩)) (fun h1 => ?_)
  refine pt_eq (fun h2 => pt_mono k25 (fun z hz => Or.inr ⟨by omega, hz⟩)) (fun h2 => ?_)
  refine pt_bi (q_keeperM hM) (fun r2 hr2 => ?_)
  exact pt_eq (fun h => pt_some (Or.inl ⟨rfl, y1, by omega⟩)) (fun h3 => pt_mono k25 (fun z hz => Or.inr ⟨by omega, hz⟩))
/-- a row filled with one value -/
theorem c_fillL {x : Int64} {c0 : Nat} {x4 : Int32} (h4 : x4.toInt ≤ 60) : ∀ (n : Nat) (σ : S2) (x3 : Int32), 0 ≤ x3.toInt → x3.toInt ≤ x4.toInt → Pt (fun z : Unit × S2 => z.2.1 = σ.1 ∧ ∀ k i : Nat, z.2.2 k i = if k = c0 ∧ x3.toInt ≤ (i : Int) ∧ (i : Int) < x4.toInt then x else σ.2 k i) (fJ7_fill_d0a16_6 τ c0 60 n σ x x3 x4) := by
  have z1 := i_1
  intro n
  induction n with
  | zero => intro σ x3 _ _; exact pt_none
  | succ n ih =>
    intro σ x3 h0 h1
    unfold fJ7_fill_d0a16_6
    refine pt_le (fun h2 => pt_some ⟨rfl, fun k i => ?_⟩) (fun h2 => pt_ck (fun _ _ hn => pt_nm (fun s1 e1 => pt_nm (fun v2 e2 => ?_))))
    · rw [if_neg (by omega)]
    · have e3 : v2.toInt = x3.toInt + 1 := by rw [e2, i32_add (by omega) (by omega)]; omega
      refine pt_mono (ih s1 v2 (by omega) (by omega)) (fun z hz => ⟨by rw [hz.1, e1]; rfl, fun k i => ?_⟩)
      rw [hz.2 k i, e1]
      show (if _ then x else (if k = c0 then vp_updL (σ.2 c0) x3.toNatClampNeg x else σ.2 k) i) = _
      by_cases q : k = c0
      · subst q
        rw [if_pos (c := k = k) rfl]
        by_cases q2 : v2.toInt ≤ (i : Int) ∧ (i : Int) < x4.toInt
        · rw [if_pos ⟨rfl, q2⟩, if_pos ⟨rfl, by omega, by omega⟩]
        · rw [if_neg (fun w => q2 w.2)]
          show (if i = x3.toNatClampNeg then x else σ.2 k i) = _
          by_cases q3 : i = x3.toNatClampNeg
          · rw [if_pos q3, if_pos ⟨rfl, by omega, by omega⟩]
          · rw [if_neg q3, if_neg (fun w => q2 ⟨by omega, w.2.2⟩)]
      · rw [if_neg q, if_neg (fun w => q w.1), if_neg (fun w => q w.1)]
theorem m_fillL {x1 : Int32} (h1 : 0 ≤ x1.toInt) (h5 : x1.toInt ≤ 5) : ∀ (n : Nat) (σ : S2) (x4 : Int32), 0 ≤ x4.toInt → x4.toInt ≤ 60 → Pt (fun z : Int32 × S2 => z.1.toInt = 1 ∧ z.2.1 = σ.1 ∧ ∀ i : Nat, z.2.2 33 i = if 60 * x1.toInt + x4.toInt ≤ (i : Int) ∧ (i : Int) < 60 * x1.toInt + 60 then 0 else σ.2 33 i) (fX12_row_55 n σ x1 x4) := by
  have z1 := i_1
  have z60 : (60 : Int32).toInt = 60 := rfl
  intro n
  induction n with
  | zero => intro σ x4 _ _; exact pt_none
  | succ n ih =>
    intro σ x4 h0 h2
    unfold fX12_row_55
    refine pt_le (fun h3 => pt_some ⟨rfl, rfl, fun i => ?_⟩) (fun h3 => pt_ck (fun _ _ hn => pt_nm (fun s1 e1 => pt_nm (fun v2 e2 => ?_))))
    · rw [if_neg (by omega)]
    · have e3 : v2.toInt = x4.toInt + 1 := by rw [e2, i32_add (by omega) (by omega)]; omega
      have ix := el_ix (a := x1) (i := x4) h1 h5 h0 h2
      refine pt_mono (ih s1 v2 (by omega) (by omega)) (fun z hz => ⟨hz.1, by rw [hz.2.1, e1]; rfl, fun i => ?_⟩)
      rw [hz.2.2 i, e1]
      show (if _ then (0 : Int64) else (if i = (60 * x1 + x4).toNatClampNeg then 0 else σ.2 33 i)) = _
      by_cases q : 60 * x1.toInt + v2.toInt ≤ (i : Int) ∧ (i : Int) < 60 * x1.toInt + 60
      · rw [if_pos q, if_pos (by omega)]
      · rw [if_neg q]
        by_cases q3 : i = (60 * x1 + x4).toNatClampNeg
        · rw [if_pos q3, if_pos (by omega)]
        · rw [if_neg q3, if_neg (by omega)]
def rwBad (a b c : Int32) : Prop := ¬ ((0 ≤ a.toInt ∧ a.toInt ≤ 5) ∧ (0 ≤ b.toInt ∧ b.toInt ≤ 4) ∧ c.toInt ≤ 60)
theorem c_row : Pt (fun z => (z.2 = σ ∧ ((z.1.toInt = -1 ∧ ¬ ((0 ≤ a.toInt ∧ a.toInt ≤ 5) ∧ (0 ≤ b.toInt ∧ b.toInt ≤ 4) ∧ c.toInt ≤ 60)) ∨ (z.1.toInt = -14 ∧ ((0 ≤ a.toInt ∧ a.toInt ≤ 5) ∧ (0 ≤ b.toInt ∧ b.toInt ≤ 4) ∧ c.toInt ≤ 60) ∧ c.toInt < 0))) ∨ (((0 ≤ a.toInt ∧ a.toInt ≤ 5) ∧ (0 ≤ b.toInt ∧ b.toInt ≤ 4) ∧ c.toInt ≤ 60) ∧ 0 ≤ c.toInt ∧ z.1.toInt = 1 ∧ z.2.1 = (ux_wI (ux_wI (ux_wI σ 38 a.toNatClampNeg (-1)) 39 a.toNatClampNeg b) 40 a.toNatClampNeg c).1 ∧ ∀ k i : Nat, z.2.2 k i = if k = 176 + a.toNatClampNeg ∧ (0 : Int) ≤ (i : Int) ∧ (i : Int) < 60 then 0 else σ.2 k i)) (fX11_row τ σ a b c) := by
  have z0 := i_0
  have z4 := i_4
  have z60 : (60 : Int32).toInt = 60 := rfl
  have y1 := i_m1
  have y14 := i_m14
  unfold fX11_row fX11_row_0
  refine pt_bi q_shelf (fun r hr => ?_)
  refine pt_eq (fun h => pt_some (Or.inl ⟨rfl, Or.inl ⟨y1, by omega⟩⟩)) (fun h1 => ?_)
  refine pt_lt (fun h => pt_some (Or.inl ⟨rfl, Or.inl ⟨y1, by omega⟩⟩)) (fun h2 => ?_)
  refine pt_lt (fun h => pt_some (Or.inl ⟨rfl, Or.inl ⟨y1, by omega⟩⟩)) (fun h3 => ?_)
  refine pt_le (fun h4 => ?_) (fun h => pt_some (Or.inl ⟨rfl, Or.inl ⟨y1, by omega⟩⟩))
  refine pt_le (fun h5 => ?_) (fun h => pt_some (Or.inl ⟨rfl, Or.inr ⟨y14, by omega, by omega⟩⟩))
  refine pt_bs (P := fun z => z.2.1 = (ux_wI (ux_wI (ux_wI σ 38 a.toNatClampNeg (-1)) 39 a.toNatClampNeg b) 40 a.toNatClampNeg c).1 ∧ ∀ k i : Nat, z.2.2 k i = if k = 176 + a.toNatClampNeg ∧ (0 : Int) ≤ (i : Int) ∧ (i : Int) < 60 then 0 else σ.2 k i) ?_ (fun r s h => pt_some (Or.inr ⟨by omega, by omega, rfl, h⟩))
  unfold fX7_holdRow fX7_holdRow_0
  refine pt_ck (fun _ _ _ => pt_ck (fun _ _ _ => pt_ck (fun _ _ _ => pt_ck (fun _ _ _ => ?_))))
  refine pt_bs (P := fun z => z.2.1 = (ux_wI (ux_wI (ux_wI σ 38 a.toNatClampNeg (-1)) 39 a.toNatClampNeg b) 40 a.toNatClampNeg c).1 ∧ ∀ k i : Nat, z.2.2 k i = if k = 176 + a.toNatClampNeg ∧ (0 : Int) ≤ (i : Int) ∧ (i : Int) < 60 then 0 else σ.2 k i) ?_ (fun r s h => pt_some h)
  unfold fJ7_fill_d0a16 fJ7_fill_d0a16_0
  refine pt_nm (fun v e => ?_)
  have e60 : v.toInt = 60 := by rw [e]; decide
  refine pt_mono (c_fillL (x := 0) (c0 := 176 + a.toNatClampNeg) (x4 := v) (by omega) FU _ 0 (by decide) (by omega)) (fun z hz => ⟨hz.1, fun k i => ?_⟩)
  rw [hz.2 k i, z0, e60]
  rfl
theorem m_row : Pt (fun z => (z.2 = ρ ∧ ((z.1.toInt = -1 ∧ ¬ ((0 ≤ a.toInt ∧ a.toInt ≤ 5) ∧ (0 ≤ b.toInt ∧ b.toInt ≤ 4) ∧ c.toInt ≤ 60)) ∨ (z.1.toInt = -14 ∧ ((0 ≤ a.toInt ∧ a.toInt ≤ 5) ∧ (0 ≤ b.toInt ∧ b.toInt ≤ 4) ∧ c.toInt ≤ 60) ∧ c.toInt < 0))) ∨ (((0 ≤ a.toInt ∧ a.toInt ≤ 5) ∧ (0 ≤ b.toInt ∧ b.toInt ≤ 4) ∧ c.toInt ≤ 60) ∧ 0 ≤ c.toInt ∧ z.1.toInt = 1 ∧ z.2.1 = (ux_wI (ux_wI (ux_wI ρ 30 a.toNatClampNeg (-1)) 31 a.toNatClampNeg b) 32 a.toNatClampNeg c).1 ∧ ∀ i : Nat, z.2.2 33 i = if 60 * a.toInt ≤ (i : Int) ∧ (i : Int) < 60 * a.toInt + 60 then 0 else ρ.2 33 i)) (fX12_row ρ a b c) := by
  have z0 := i_0
  have z4 := i_4
  have z60 : (60 : Int32).toInt = 60 := rfl
  have y1 := i_m1
  have y14 := i_m14
  unfold fX12_row fX12_row_0
  refine pt_bi q_shelfM (fun r hr => ?_)
  refine pt_eq (fun h => pt_some (Or.inl ⟨rfl, Or.inl ⟨y1, by omega⟩⟩)) (fun h1 => ?_)
  refine pt_bi q_in (fun r2 hr2 => ?_)
  refine pt_eq (fun h => pt_some (Or.inl ⟨rfl, Or.inl ⟨y1, by omega⟩⟩)) (fun h2 => ?_)
  refine pt_le (fun h4 => ?_) (fun h => pt_some (Or.inl ⟨rfl, Or.inl ⟨y1, by omega⟩⟩))
  refine pt_le (fun h5 => ?_) (fun h => pt_some (Or.inl ⟨rfl, Or.inr ⟨y14, by omega, by omega⟩⟩))
  refine pt_ck (fun _ _ _ => pt_ck (fun _ _ _ => pt_ck (fun _ _ _ => ?_)))
  refine pt_mono (m_fillL (x1 := a) (by omega) (by omega) FU _ 0 (by decide) (by decide)) (fun z hz => Or.inr ⟨by omega, by omega, hz.1, hz.2.1, fun i => ?_⟩)
  rw [hz.2.2 i, z0, show 60 * a.toInt + 0 = 60 * a.toInt by omega]
  rfl
end SHELVES
section STEPS
variable {σ ρ σ' ρ' : S2} {τ : Nat} {a b c r q : Int32}
theorem st_keep (hR : RelA σ ρ) (hI : IvC 0 τ σ) (hM : IvM 0 ρ) (h : fX11_keep τ σ a b = some (r, σ')) (h2 : fX12_keep ρ a b = some (q, ρ')) : r = q ∧ RelA σ' ρ' := by
  have p1 := c_keep (a := a) (b := b) _ h
  have p2 := m_keep (a := a) (b := b) hM _ h2
  obtain ⟨hk, hF, hA, hS, hE⟩ := hR
  have fc := wfX11_keep (m := 2097152) rfl τ σ a b (Fr.rf σ) _ h
  have fm := wfX12_keep (m := 2097152) rfl ρ a b (Fr.rf ρ) _ h2
  have b1 : 0 ≤ (σ.1 7 5).toInt ∧ (σ.1 7 5).toInt ≤ 12 := hI.1 7 5
  rw [hk.1] at p2
  rcases p1 with ⟨e, p1, p3⟩ | ⟨g, e, e2⟩ <;> rcases p2 with ⟨d, p2, p4⟩ | ⟨f, d, d2⟩
  · have e : σ' = σ := e
    have d : ρ' = ρ := d
    subst e; subst d
    exact ⟨Int32.toInt_inj.mp (Eq.trans p1 (Eq.symm p2)), hk, hF, hA, hS, hE⟩
  · exfalso; exact p3 f
  · exfalso; exact p4 g
  · have e2 : σ' = _ := e2
    have d2 : ρ' = _ := d2
    refine ⟨Int32.toInt_inj.mp (Eq.trans e (Eq.symm d)), hk.fr fc fm rfl rfl rfl rfl rfl rfl rfl rfl, hF.fr fc fm rfl rfl, hA.fr fc fm rfl rfl, fun i hi => ?_, hE.fr fc fm rfl rfl⟩
    obtain ⟨s1, s2, s3, s4⟩ := hS i hi
    rw [e2, d2]
    show (if i = a.toNatClampNeg then b else ρ.1 30 i) = (if i = a.toNatClampNeg then b else σ.1 38 i) ∧ (if i = a.toNatClampNeg then (-1 : Int32) else ρ.1 31 i) = (if i = a.toNatClampNeg then (-1 : Int32) else σ.1 39 i) ∧ ((if i = a.toNatClampNeg then (-1 : Int32) else σ.1 39 i) ≠ -1 → ρ.1 32 i = (if i = a.toNatClampNeg then (0 : Int32) else σ.1 40 i) ∧ (if i = a.toNatClampNeg then b else σ.1 38 i) = -1) ∧ (if i = a.toNatClampNeg then b else σ.1 38 i).toInt < (σ.1 7 5).toInt
    by_cases q : i = a.toNatClampNeg
    · rw [if_pos q, if_pos q, if_pos q, if_pos q, if_pos q]
      exact ⟨rfl, rfl, fun n => absurd rfl n, by omega⟩
    · rw [if_neg q, if_neg q, if_neg q, if_neg q, if_neg q]
      exact ⟨s1, s2, s3, s4⟩
theorem st_row (hR : RelA σ ρ) (hI : IvC 0 τ σ) (h : fX11_row τ σ a b c = some (r, σ')) (h2 : fX12_row ρ a b c = some (q, ρ')) : r = q ∧ RelA σ' ρ' := by
  have p1 := c_row (a := a) (b := b) (c := c) _ h
  have p2 := m_row (a := a) (b := b) (c := c) _ h2
  obtain ⟨hk, hF, hA, hS, hE⟩ := hR
  have fc := wfX11_row (m := 6291456) rfl τ σ a b c (Fr.rf σ) _ h
  have fm := wfX12_row (m := 6291456) rfl ρ a b c (Fr.rf ρ) _ h2
  have b1 : 0 ≤ (σ.1 7 5).toInt ∧ (σ.1 7 5).toInt ≤ 12 := hI.1 7 5
  have y1 := i_m1
  have z0 := i_0
  rcases p1 with ⟨e, p1⟩ | ⟨g, g2, e, e2, e3⟩ <;> rcases p2 with ⟨d, p2⟩ | ⟨f, f2, d, d2, d3⟩
  · have e : σ' = σ := e
    have d : ρ' = ρ := d
    subst e; subst d
    refine ⟨Int32.toInt_inj.mp ?_, hk, hF, hA, hS, hE⟩
    have p1 : (r.toInt = -1 ∧ _) ∨ (r.toInt = -14 ∧ _) := p1
    have p2 : (q.toInt = -1 ∧ _) ∨ (q.toInt = -14 ∧ _) := p2
    omega
  · exfalso; omega
  · exfalso; omega
  · have e2 : σ'.1 = _ := e2
    have d2 : ρ'.1 = _ := d2
    have n1 := i32_nat g.1.1
    refine ⟨Int32.toInt_inj.mp (Eq.trans e (Eq.symm d)), hk.fr fc fm rfl rfl rfl rfl rfl rfl rfl rfl, hF.fr fc fm rfl rfl, hA.fr fc fm rfl rfl, fun i hi => ?_, fun s i hs hi => ?_⟩
    · obtain ⟨s1, s2, s3, s4⟩ := hS i hi
      rw [e2, d2]
      show (if i = a.toNatClampNeg then (-1 : Int32) else ρ.1 30 i) = (if i = a.toNatClampNeg then (-1 : Int32) else σ.1 38 i) ∧ (if i = a.toNatClampNeg then b else ρ.1 31 i) = (if i = a.toNatClampNeg then b else σ.1 39 i) ∧ ((if i = a.toNatClampNeg then b else σ.1 39 i) ≠ -1 → (if i = a.toNatClampNeg then c else ρ.1 32 i) = (if i = a.toNatClampNeg then c else σ.1 40 i) ∧ (if i = a.toNatClampNeg then (-1 : Int32) else σ.1 38 i) = -1) ∧ (if i = a.toNatClampNeg then (-1 : Int32) else σ.1 38 i).toInt < (σ.1 7 5).toInt
      by_cases q : i = a.toNatClampNeg
      · rw [if_pos q, if_pos q, if_pos q, if_pos q, if_pos q, if_pos q]
        exact ⟨rfl, rfl, fun _ => ⟨rfl, rfl⟩, by omega⟩
      · rw [if_neg q, if_neg q, if_neg q, if_neg q, if_neg q, if_neg q]
        exact ⟨s1, s2, s3, s4⟩
    · have e4 : σ'.2 (176 + s) i = _ := e3 (176 + s) i
      have d4 : ρ'.2 33 (60 * s + i) = _ := d3 (60 * s + i)
      rw [e4, d4]
      by_cases q : s = a.toNatClampNeg
      · rw [if_pos (by omega), if_pos (by omega)]
      · rw [if_neg (by omega), if_neg (by omega)]; exact hE s i hs hi
end STEPS
/-! elements -/
def rfC (srt kp len i : Int) : Int := if srt = -1 then (if kp = -1 then -11 else -12) else if 0 ≤ i ∧ i < len then 0 else -13
section ELEMS
variable {σ ρ : S2} {τ : Nat} {a i : Int32}
theorem q_empty : Pt (fun r => (r.toInt = 0 ∧ ¬ ((σ.1 39 a.toNatClampNeg).toInt = -1 ∧ (σ.1 38 a.toNatClampNeg).toInt = -1)) ∨ (r.toInt = 1 ∧ (σ.1 39 a.toNatClampNeg).toInt = -1 ∧ (σ.1 38 a.toNatClampNeg).toInt = -1)) (fX7_isEmpty τ σ a) := by
  have z0 := i_0
  have z1 := i_1
  have y1 := i_m1
  unfold fX7_isEmpty fX7_isEmpty_0
  refine pt_ck (fun _ _ _ => pt_nm (fun v e => ?_))
  subst e
  refine pt_eq (fun h => pt_ck (fun _ _ _ => pt_nm (fun v e => ?_))) (fun h => pt_some (by rw [z0]; omega))
  subst e
  exact pt_eq (fun h2 => pt_some (by rw [z1]; omega)) (fun h2 => pt_some (by rw [z0]; omega))
theorem q_isRow : Pt (fun r => (r.toInt = 0 ∧ (σ.1 39 a.toNatClampNeg).toInt = -1) ∨ (r.toInt = 1 ∧ (σ.1 39 a.toNatClampNeg).toInt ≠ -1)) (fX7_isRow τ σ a) := by
  have z0 := i_0
  have z1 := i_1
  have y1 := i_m1
  unfold fX7_isRow fX7_isRow_0
  refine pt_ck (fun _ _ _ => pt_nm (fun v e => ?_))
  subst e
  exact pt_eq (fun h2 => pt_some (by rw [z0]; omega)) (fun h2 => pt_some (by rw [z1]; omega))
theorem q_ref : Pt (fun r => r.toInt = rfC (σ.1 39 a.toNatClampNeg).toInt (σ.1 38 a.toNatClampNeg).toInt (σ.1 40 a.toNatClampNeg).toInt i.toInt) (fX7_refusalAt τ σ a i) := by
  have z0 := i_0
  unfold fX7_refusalAt fX7_refusalAt_0
  refine pt_bi q_empty (fun r hr => ?_)
  refine pt_eq (fun h => ?_) (fun h => pt_some ?_)
  · refine pt_bi q_isRow (fun r2 hr2 => ?_)
    refine pt_eq (fun h2 => pt_some ?_) (fun h2 => ?_)
    · unfold rfC; rw [i_m12, if_pos (by omega), if_neg (by omega)]
    · refine pt_lt (fun h3 => pt_some ?_) (fun h3 => ?_)
      · unfold rfC; rw [i_m13, if_neg (by omega), if_neg (by omega)]
      · refine pt_ck (fun _ _ _ => pt_nm (fun v e => ?_))
        subst e
        refine pt_le (fun h4 => pt_some ?_) (fun h4 => pt_some ?_)
        · unfold rfC; rw [i_m13, if_neg (by omega), if_neg (by omega)]
        · unfold rfC; rw [z0, if_neg (by omega), if_pos (by omega)]
  · unfold rfC; rw [i_m11, if_pos (by omega), if_pos (by omega)]
theorem q_bar (hM : IvM 0 ρ) : Pt (fun r => r.toInt = (if 0 ≤ a.toInt ∧ a.toInt ≤ 5 then rfC (ρ.1 31 a.toNatClampNeg).toInt (ρ.1 30 a.toNatClampNeg).toInt (ρ.1 32 a.toNatClampNeg).toInt i.toInt else -1)) (fX12_barred ρ a i) := by
  have z0 := i_0
  have z1 := i_1
  have b31 : -1 ≤ (ρ.1 31 a.toNatClampNeg).toInt ∧ (ρ.1 31 a.toNatClampNeg).toInt ≤ 4 := hM.1 31 _
  have b30 : -1 ≤ (ρ.1 30 a.toNatClampNeg).toInt ∧ (ρ.1 30 a.toNatClampNeg).toInt ≤ 11 := hM.1 30 _
  have b32 : 0 ≤ (ρ.1 32 a.toNatClampNeg).toInt ∧ (ρ.1 32 a.toNatClampNeg).toInt ≤ 60 := hM.1 32 _
  unfold fX12_barred fX12_barred_0
  refine pt_bi q_shelfM (fun r hr => ?_)
  refine pt_eq (fun h => pt_some ?_) (fun h => ?_)
  · rw [i_m1, if_neg (by omega)]
  · rw [if_pos (by omega)]
    refine pt_ck (fun _ _ _ => pt_nm (fun v e => ?_))
    subst e
    refine pt_le (fun h2 => ?_) (fun h2 => ?_)
    · refine pt_ck (fun _ _ _ => pt_nm (fun v e => ?_))
      subst e
      have es : (ρ.1 32 a.toNatClampNeg - 1).toInt = (ρ.1 32 a.toNatClampNeg).toInt - 1 := by rw [i32_sub (by omega) (by omega)]; omega
      refine pt_bi q_in (fun r2 hr2 => ?_)
      refine pt_eq (fun h3 => pt_some ?_) (fun h3 => pt_some ?_)
      · unfold rfC; rw [i_m13, if_neg (by omega), if_neg (by omega)]
      · unfold rfC; rw [z0, if_neg (by omega), if_pos (by omega)]
    · refine pt_ck (fun _ _ _ => pt_nm (fun v e => ?_))
      subst e
      refine pt_le (fun h3 => pt_some ?_) (fun h3 => pt_some ?_)
      · unfold rfC; rw [i_m12, if_pos (by omega), if_neg (by omega)]
      · unfold rfC; rw [i_m11, if_pos (by omega), if_pos (by omega)]
end ELEMS
theorem rf_eq {σ ρ : S2} {a : Int32} {i : Int} (hS : RS σ ρ) (h0 : 0 ≤ a.toInt) (h1 : a.toInt ≤ 5) : rfC (ρ.1 31 a.toNatClampNeg).toInt (ρ.1 30 a.toNatClampNeg).toInt (ρ.1 32 a.toNatClampNeg).toInt i = rfC (σ.1 39 a.toNatClampNeg).toInt (σ.1 38 a.toNatClampNeg).toInt (σ.1 40 a.toNatClampNeg).toInt i := by
  have n := i32_nat h0
  obtain ⟨s1, s2, s3, _⟩ := hS a.toNatClampNeg (by omega)
  rw [s1, s2]
  by_cases c : σ.1 39 a.toNatClampNeg = -1
  · unfold rfC
    have e : (σ.1 39 a.toNatClampNeg).toInt = -1 := by rw [c]; rfl
    rw [if_pos e, if_pos e]
  · rw [(s3 c).1]
def lowV (s : Int32) (v : Int64) : Int64 := if s = 0 then Int32.toInt64 (Int8.toInt32 (Int32.toInt8 (Int64.toInt32 v))) else if s = 1 then Int32.toInt64 (Int16.toInt32 (Int32.toInt16 (Int64.toInt32 v))) else if s = 2 then Int32.toInt64 (Int64.toInt32 v) else if s = 3 then v else if (lg_cmp v 0) = 0 then 0 else 1
section STEPS2
variable {σ ρ σ' ρ' : S2} {τ : Nat} {a i r q : Int32}
theorem rf_0 {srt kp len i : Int} (h : rfC srt kp len i = 0) : srt ≠ -1 ∧ 0 ≤ i ∧ i < len := by
  unfold rfC at h
  by_cases c : srt = -1
  · rw [if_pos c] at h
    by_cases c2 : kp = -1
    · rw [if_pos c2] at h; omega
    · rw [if_neg c2] at h; omega
  · rw [if_neg c] at h
    by_cases c2 : 0 ≤ i ∧ i < len
    · exact ⟨c, c2⟩
    · rw [if_neg c2] at h; omega
theorem st_put {v : Int64} (hR : RelA σ ρ) (hI : IvC 0 τ σ) (hM : IvM 0 ρ) (h : fX11_put τ σ a i v = some (r, σ')) (h2 : fX12_put ρ a i v = some (q, ρ')) : r = q ∧ RelA σ' ρ' := by
  have z0 := i_0
  obtain ⟨hk, hF, hA, hS, hE⟩ := hR
  have fc := wfX11_put (m := 4194304) rfl τ σ a i v (Fr.rf σ) _ h
  have fm := wfX12_put (m := 4194304) rfl ρ a i v (Fr.rf ρ) _ h2
  suffices hs : r = q ∧ RE σ' ρ' from ⟨hs.1, hk.fr fc fm rfl rfl rfl rfl rfl rfl rfl rfl, hF.fr fc fm rfl rfl, hA.fr fc fm rfl rfl, hS.fr fc fm rfl rfl (by rw [(fc 7 5 rfl).1]; exact Int.le_refl _), hs.2⟩
  unfold fX11_put fX11_put_0 at h
  unfold fX12_put fX12_put_0 at h2
  obtain ⟨r1, e1, h⟩ := biS h
  obtain ⟨r2, e2, h2⟩ := biS h2
  have e1 := q_shelf _ e1
  have e2 := q_bar hM _ e2
  by_cases c1 : r1 = 0
  · have c1' : r1.toInt = 0 := by rw [c1]; rfl
    rw [if_pos c1] at h
    rw [if_neg (by omega)] at e2
    have c2 : ¬ r2 = 0 := fun w => by rw [w, z0] at e2; omega
    rw [if_neg c2] at h2
    cases h; cases h2
    exact ⟨Int32.toInt_inj.mp (by rw [e2]; rfl), hE⟩
  have c1' : r1.toInt ≠ 0 := fun w => c1 (Int32.toInt_inj.mp w)
  rw [if_neg c1] at h
  have sa : 0 ≤ a.toInt ∧ a.toInt ≤ 5 := by omega
  rw [if_pos sa, rf_eq hS sa.1 sa.2] at e2
  obtain ⟨r3, e3, h⟩ := biS h
  have e3 := q_ref _ e3
  have e23 : r3 = r2 := Int32.toInt_inj.mp (e3.trans e2.symm)
  subst e23
  by_cases c3 : r3 = 0
  · rw [if_pos c3] at h h2
    have c3' : r3.toInt = 0 := by rw [c3]; rfl
    have hin := rf_0 (e3.symm.trans c3')
    have n := i32_nat sa.1
    obtain ⟨s1, s2, s3, _⟩ := hS a.toNatClampNeg (by omega)
    have b39 : -1 ≤ (σ.1 39 a.toNatClampNeg).toInt ∧ (σ.1 39 a.toNatClampNeg).toInt ≤ 4 := hI.1 39 _
    have b40 : 0 ≤ (σ.1 40 a.toNatClampNeg).toInt ∧ (σ.1 40 a.toNatClampNeg).toInt ≤ 60 := hI.1 40 _
    have ix := el_ix (a := a) (i := i) sa.1 sa.2 (by omega) (by omega)
    have ni := i32_nat (i := i) (by omega)
    obtain ⟨_, h⟩ := ckS h
    obtain ⟨_, h⟩ := ckS h
    have h : bi (fX7_lowest τ σ (σ.1 39 a.toNatClampNeg) v) (fun r7 => ck 60 i (nm (ux_wL σ (176 + a.toNatClampNeg) i.toNatClampNeg r7) (fun σ9 => some (1, σ9)))) = some (r, σ') := h
    obtain ⟨w, e4, h⟩ := biS h
    obtain ⟨_, h⟩ := ckS h
    have h : some ((1 : Int32), ux_wL σ (176 + a.toNatClampNeg) i.toNatClampNeg w) = some (r, σ') := h
    obtain ⟨_, h2⟩ := ckS h2
    have p92 : ∀ w : Int64, fX12_put_92 ρ w (60 * a + i) = some (q, ρ') → q = 1 ∧ ρ' = ux_wL ρ 33 (60 * a + i).toNatClampNeg w := fun w h9 => by
      unfold fX12_put_92 at h9
      obtain ⟨_, h9⟩ := ckS h9
      have h9 : some ((1 : Int32), ux_wL ρ 33 (60 * a + i).toNatClampNeg w) = some (q, ρ') := h9
      cases h9; exact ⟨rfl, rfl⟩
    have hw : w = lowV (σ.1 39 a.toNatClampNeg) v := by
      unfold fX7_lowest fX7_lowest_0 at e4
      unfold lowV
      generalize σ.1 39 a.toNatClampNeg = s at e4 b39 hin ⊢
      by_cases k0 : s = 0
      · rw [if_pos k0] at e4 ⊢; cases e4; rfl
      rw [if_neg k0] at e4 ⊢
      by_cases k1 : s = 1
      · rw [if_pos k1] at e4 ⊢; cases e4; rfl
      rw [if_neg k1] at e4 ⊢
      by_cases k2 : s = 2
      · rw [if_pos k2] at e4 ⊢; cases e4; rfl
      rw [if_neg k2] at e4 ⊢
      by_cases k3 : s = 3
      · rw [if_pos k3] at e4 ⊢; cases e4; rfl
      rw [if_neg k3] at e4 ⊢
      have k4 : s = 4 := by
        have n0 : s.toInt ≠ 0 := fun q => k0 (Int32.toInt_inj.mp q)
        have n1 : s.toInt ≠ 1 := fun q => k1 (Int32.toInt_inj.mp q)
        have n2 : s.toInt ≠ 2 := fun q => k2 (Int32.toInt_inj.mp q)
        have n3 : s.toInt ≠ 3 := fun q => k3 (Int32.toInt_inj.mp q)
        exact Int32.toInt_inj.mp (by rw [i_4]; omega)
      rw [if_pos k4] at e4
      by_cases k5 : lg_cmp v 0 = 0
      · rw [if_pos k5] at e4 ⊢; cases e4; rfl
      · rw [if_neg k5] at e4 ⊢; cases e4; rfl
    have hq : q = 1 ∧ ρ' = ux_wL ρ 33 (60 * a + i).toNatClampNeg (lowV (σ.1 39 a.toNatClampNeg) v) := by
      have h2 : (if ρ.1 31 a.toNatClampNeg = 0 then fX12_put_92 ρ (Int32.toInt64 (Int8.toInt32 (Int32.toInt8 (Int64.toInt32 v)))) (60 * a + i) else if ρ.1 31 a.toNatClampNeg = 1 then fX12_put_92 ρ (Int32.toInt64 (Int16.toInt32 (Int32.toInt16 (Int64.toInt32 v)))) (60 * a + i) else if ρ.1 31 a.toNatClampNeg = 2 then fX12_put_92 ρ (Int32.toInt64 (Int64.toInt32 v)) (60 * a + i) else if ρ.1 31 a.toNatClampNeg = 3 then fX12_put_92 ρ v (60 * a + i) else if (lg_cmp v 0) = 0 then fX12_put_92 ρ 0 (60 * a + i) else fX12_put_92 ρ 1 (60 * a + i)) = some (q, ρ') := h2
      rw [s2] at h2
      unfold lowV
      generalize σ.1 39 a.toNatClampNeg = s at h2 ⊢
      by_cases k0 : s = 0
      · rw [if_pos k0] at h2 ⊢; exact p92 _ h2
      rw [if_neg k0] at h2 ⊢
      by_cases k1 : s = 1
      · rw [if_pos k1] at h2 ⊢; exact p92 _ h2
      rw [if_neg k1] at h2 ⊢
      by_cases k2 : s = 2
      · rw [if_pos k2] at h2 ⊢; exact p92 _ h2
      rw [if_neg k2] at h2 ⊢
      by_cases k3 : s = 3
      · rw [if_pos k3] at h2 ⊢; exact p92 _ h2
      rw [if_neg k3] at h2 ⊢
      by_cases k5 : lg_cmp v 0 = 0
      · rw [if_pos k5] at h2 ⊢; exact p92 _ h2
      · rw [if_neg k5] at h2 ⊢; exact p92 _ h2
    cases h
    refine ⟨hq.1.symm, fun s j hs hj => ?_⟩
    rw [hq.2, ← hw, ix.2]
    show (if 60 * s + j = 60 * a.toNatClampNeg + i.toNatClampNeg then w else ρ.2 33 (60 * s + j)) = (if 176 + s = 176 + a.toNatClampNeg then vp_updL (σ.2 (176 + a.toNatClampNeg)) i.toNatClampNeg w else σ.2 (176 + s)) j
    by_cases k1 : s = a.toNatClampNeg
    · subst k1
      rw [if_pos (c := 176 + a.toNatClampNeg = 176 + a.toNatClampNeg) rfl]
      show _ = (if j = i.toNatClampNeg then w else σ.2 (176 + a.toNatClampNeg) j)
      by_cases k2 : j = i.toNatClampNeg
      · rw [if_pos k2, if_pos (by omega)]
      · rw [if_neg k2, if_neg (by omega)]; exact hE _ _ hs hj
    · rw [if_neg (by omega), if_neg (by omega)]; exact hE _ _ hs hj
  · rw [if_neg c3] at h h2
    cases h; cases h2
    exact ⟨rfl, hE⟩
theorem an_element {w w2 : Int64} (hR : RelA σ ρ) (hI : IvC 0 τ σ) (hM : IvM 0 ρ) (h : fX11_element τ σ a i = some w) (h2 : fX12_element ρ a i = some w2) : w = w2 := by
  have z0 := i_0
  obtain ⟨hk, hF, hA, hS, hE⟩ := hR
  unfold fX11_element fX11_element_0 fX11_element_19 at h
  unfold fX12_element fX12_element_0 at h2
  obtain ⟨r1, e1, h⟩ := biS h
  obtain ⟨r2, e2, h2⟩ := biS h2
  have e1 := q_shelf _ e1
  have e2 := q_bar hM _ e2
  by_cases c1 : r1 = 0
  · have c1' : r1.toInt = 0 := by rw [c1]; rfl
    rw [if_pos c1] at h
    rw [if_neg (by omega)] at e2
    have c2 : ¬ r2 = 0 := fun w => by rw [w, z0] at e2; omega
    rw [if_neg c2] at h2
    cases h; cases h2; rfl
  have c1' : r1.toInt ≠ 0 := fun w => c1 (Int32.toInt_inj.mp w)
  rw [if_neg c1] at h
  have sa : 0 ≤ a.toInt ∧ a.toInt ≤ 5 := by omega
  rw [if_pos sa, rf_eq hS sa.1 sa.2] at e2
  obtain ⟨r3, e3, h⟩ := biS h
  have e3 := q_ref _ e3
  have e23 : r3 = r2 := Int32.toInt_inj.mp (e3.trans e2.symm)
  subst e23
  by_cases c3 : r3 = 0
  · rw [if_pos c3] at h h2
    have c3' : r3.toInt = 0 := by rw [c3]; rfl
    have hin := rf_0 (e3.symm.trans c3')
    have n := i32_nat sa.1
    have b40 : 0 ≤ (σ.1 40 a.toNatClampNeg).toInt ∧ (σ.1 40 a.toNatClampNeg).toInt ≤ 60 := hI.1 40 _
    have ix := el_ix (a := a) (i := i) sa.1 sa.2 (by omega) (by omega)
    have ni := i32_nat (i := i) (by omega)
    obtain ⟨_, h⟩ := ckS h
    obtain ⟨_, h⟩ := ckS h
    have h : some (σ.2 (176 + a.toNatClampNeg) i.toNatClampNeg) = some w := h
    obtain ⟨_, h2⟩ := ckS h2
    have h2 : some (ρ.2 33 (60 * a + i).toNatClampNeg) = some w2 := h2
    cases h; cases h2
    rw [ix.2]
    exact (hE _ _ (by omega) (by omega)).symm
  · rw [if_neg c3] at h h2
    cases h; cases h2; rfl
end STEPS2
