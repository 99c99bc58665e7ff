section KEEPERS
variable {σ ρ : S2} {τ : Nat} {a b : Int32}
/-! strength, kind and fall of a keeper -/
theorem c_strength : Pt (fun z => (z.2 = σ ∧ z.1.toInt = -1 ∧ ¬ ((0 ≤ a.toInt ∧ a.toInt < (σ.1 7 5).toInt) ∧ 1 ≤ b.toInt ∧ b.toInt ≤ 8)) ∨ (((0 ≤ a.toInt ∧ a.toInt < (σ.1 7 5).toInt) ∧ 1 ≤ b.toInt ∧ b.toInt ≤ 8) ∧ z.1 = σ.1 10 a.toNatClampNeg ∧ z.2 = ux_wI σ 10 a.toNatClampNeg b)) (fX11_strength τ σ a b) := by
  have z0 := i_0
  have y1 := i_m1
  unfold fX11_strength fX11_strength_0
  refine pt_bi q_has (fun r hr => ?_)
  refine pt_eq (fun h => pt_some (Or.inl ⟨rfl, y1, by omega⟩)) (fun h1 => ?_)
  refine pt_bi q_str (fun r2 hr2 => ?_)
  refine pt_eq (fun h => pt_some (Or.inl ⟨rfl, y1, by omega⟩)) (fun h2 => ?_)
  refine pt_ck (fun _ _ _ => pt_nm (fun v e => pt_ck (fun _ _ _ => pt_nm (fun s1 e1 => ?_))))
  exact pt_some (Or.inr ⟨by omega, e, e1⟩)
theorem m_strength (hM : IvM 0 ρ) : Pt (fun z => (z.2 = ρ ∧ z.1.toInt = -1 ∧ ¬ ((0 ≤ a.toInt ∧ a.toInt < (ρ.1 0 3).toInt) ∧ 1 ≤ b.toInt ∧ b.toInt ≤ 8)) ∨ (((0 ≤ a.toInt ∧ a.toInt < (ρ.1 0 3).toInt) ∧ 1 ≤ b.toInt ∧ b.toInt ≤ 8) ∧ z.1 = ρ.1 4 a.toNatClampNeg ∧ z.2 = ux_wI ρ 4 a.toNatClampNeg b)) (fX12_strength ρ a b) := by
  have z0 := i_0
  have z1 := i_1
  have z8 := i_8
  have y1 := i_m1
  unfold fX12_strength fX12_strength_0
  refine pt_bi (q_keeperM hM) (fun r hr => ?_)
  refine pt_eq (fun h => pt_some (Or.inl ⟨rfl, y1, by omega⟩)) (fun h1 => ?_)
  refine pt_bi q_in (fun r2 hr2 => ?_)
  refine pt_eq (fun h => pt_some (Or.inl ⟨rfl, y1, by omega⟩)) (fun h2 => ?_)
  refine pt_ck (fun _ _ _ => pt_nm (fun v e => pt_ck (fun _ _ _ => pt_nm (fun s1 e1 => ?_))))
  exact pt_some (Or.inr ⟨by omega, e, e1⟩)
theorem c_become : Pt (fun z => (z.2 = σ ∧ z.1.toInt = -1 ∧ ¬ ((0 ≤ a.toInt ∧ a.toInt < (σ.1 7 5).toInt) ∧ 0 ≤ b.toInt ∧ b.toInt ≤ 6)) ∨ (((0 ≤ a.toInt ∧ a.toInt < (σ.1 7 5).toInt) ∧ 0 ≤ b.toInt ∧ b.toInt ≤ 6) ∧ z.1 = σ.1 8 a.toNatClampNeg ∧ Fr gC 6144 (ux_wI σ 8 a.toNatClampNeg b) z.2)) (fX11_become τ σ a b) := by
  have z0 := i_0
  have y1 := i_m1
  unfold fX11_become fX11_become_0
  refine pt_bi q_has (fun r hr => ?_)
  refine pt_eq (fun h => pt_some (Or.inl ⟨rfl, y1, by omega⟩)) (fun h1 => ?_)
  refine pt_bi q_kind (fun r2 hr2 => ?_)
  refine pt_eq (fun h => pt_some (Or.inl ⟨rfl, y1, by omega⟩)) (fun h2 => ?_)
  refine pt_ck (fun _ _ _ => pt_nm (fun v e => pt_ck (fun _ _ _ => pt_nm (fun s1 e1 => ?_))))
  subst e1
  refine pt_eq (fun _ => pt_eq (fun _ => ?_) (fun _ => ?_)) (fun _ => ?_)
  · exact pt_some (Or.inr ⟨by omega, e, Fr.rf _⟩)
  · refine pt_bs (pt_fr (wfX6_handBack (m := 6144) rfl τ _ a (Fr.rf _))) (fun r3 σ3 h3 => ?_)
    exact pt_some (Or.inr ⟨by omega, e, h3⟩)
  · exact pt_some (Or.inr ⟨by omega, e, Fr.rf _⟩)
theorem m_become_37 (n : Nat) {σ0 : S2} {x3 : Int32} : ∀ (σ : S2) (x1 x2 x4 : Int32), Fr gM 6144 σ0 σ → Pt (fun z : Int32 × S2 => z.1 = x3 ∧ Fr gM 6144 σ0 z.2) (fX12_become_37 n σ x1 x2 x3 x4) := by
  induction n with
  | zero => intro σ x1 x2 x4 _; exact pt_none
  | succ n ih =>
    intro σ x1 x2 x4 hf
    have k136 : ∀ (σ : S2) (x4 : Int32), Fr gM 6144 σ0 σ → Pt (fun z : Int32 × S2 => z.1 = x3 ∧ Fr gM 6144 σ0 z.2) (fX12_become_136 (fX12_become_37 n) σ x1 x2 x3 x4) := fun σ x4 hf => by
      unfold fX12_become_136
      exact pt_nm (fun v _ => ih _ _ _ _ hf)
    have k118 : ∀ (σ : S2) (x4 s0 s1 : Int32), Fr gM 6144 σ0 σ → Pt (fun z : Int32 × S2 => z.1 = x3 ∧ Fr gM 6144 σ0 z.2) (fX12_become_118 (fX12_become_37 n) σ x1 x2 x3 x4 s0 s1) := fun σ x4 s0 s1 hf => by
      unfold fX12_become_118
      refine pt_ck (fun _ _ _ => pt_nm (fun _ e => ?_))
      subst e
      have hf := Fr.wI (x := s0) (k := 20) (i := s1.toNatClampNeg) hf (show Nat.testBit 6144 11 = true from rfl)
      refine pt_ck (fun _ _ _ => pt_nm (fun _ e => ?_))
      subst e
      have hf := Fr.wI (x := 0) (k := 21) (i := x4.toNatClampNeg) hf (show Nat.testBit 6144 12 = true from rfl)
      refine pt_ck (fun _ _ _ => pt_nm (fun _ e => ?_))
      subst e
      exact k136 _ _ (Fr.wI (k := 22) hf (show Nat.testBit 6144 12 = true from rfl))
    unfold fX12_become_37
    refine pt_if (fun _ => pt_some ⟨rfl, hf⟩) (fun _ => pt_if (fun _ => pt_if (fun _ => pt_some ⟨rfl, hf⟩) (fun _ => ?_)) (fun _ => pt_some ⟨rfl, hf⟩))
    refine pt_ck (fun _ _ _ => pt_nm (fun _ _ => pt_if (fun _ => ?_) (fun _ => k136 _ _ hf)))
    refine pt_dz (fun _ => pt_nm (fun _ _ => pt_ck (fun _ _ _ => pt_nm (fun _ _ => pt_ck (fun _ _ _ => pt_nm (fun _ _ => ?_))))))
    exact pt_if (fun _ => pt_ck (fun _ _ _ => pt_nm (fun _ _ => k118 _ _ _ _ hf))) (fun _ => pt_ck (fun _ _ _ => pt_nm (fun _ _ => k118 _ _ _ _ hf)))
theorem m_become (hM : IvM 0 ρ) : Pt (fun z => (z.2 = ρ ∧ z.1.toInt = -1 ∧ ¬ ((0 ≤ a.toInt ∧ a.toInt < (ρ.1 0 3).toInt) ∧ 0 ≤ b.toInt ∧ b.toInt ≤ 6)) ∨ (((0 ≤ a.toInt ∧ a.toInt < (ρ.1 0 3).toInt) ∧ 0 ≤ b.toInt ∧ b.toInt ≤ 6) ∧ z.1 = ρ.1 5 a.toNatClampNeg ∧ Fr gM 6144 (ux_wI ρ 5 a.toNatClampNeg b) z.2)) (fX12_become ρ a b) := by
  have z0 := i_0
  have z6 := i_6
  have y1 := i_m1
  unfold fX12_become fX12_become_0
  refine pt_bi (q_keeperM hM) (fun r hr => ?_)
  refine pt_eq (fun h => pt_some (Or.inl ⟨rfl, y1, by omega⟩)) (fun h1 => ?_)
  refine pt_bi q_in (fun r2 hr2 => ?_)
  refine pt_eq (fun h => pt_some (Or.inl ⟨rfl, y1, by omega⟩)) (fun h2 => ?_)
  refine pt_ck (fun _ _ _ => pt_nm (fun v e => pt_ck (fun _ _ _ => pt_nm (fun s1 e1 => ?_))))
  subst e1; subst e
  exact pt_mono (m_become_37 FU _ _ _ _ (Fr.rf _)) (fun z hz => Or.inr ⟨by omega, hz.1, hz.2⟩)
theorem c_fall_58 {x3 : Int32} {s0 s1 : Int32} : Pt (fun z : Int32 × S2 => z.1 = x3 ∧ Fr gC 6144 (ux_wI σ 12 s1.toNatClampNeg (vp_nar .boolean s0)) z.2) (fX11_fall_58 τ σ a b x3 s0 s1) := by
  unfold fX11_fall_58
  refine pt_ck (fun _ _ _ => pt_nm (fun _ e => ?_))
  subst e
  refine pt_if (fun _ => ?_) (fun _ => pt_some ⟨rfl, Fr.rf _⟩)
  exact pt_bs (pt_fr (wfX6_empty (m := 6144) rfl τ _ a (Fr.rf _))) (fun r3 σ3 h3 => pt_some ⟨rfl, h3⟩)
theorem c_fall : Pt (fun z => (z.2 = σ ∧ z.1.toInt = -1 ∧ ¬ ((0 ≤ a.toInt ∧ a.toInt < (σ.1 7 5).toInt) ∧ 0 ≤ b.toInt ∧ b.toInt ≤ 1)) ∨ (((0 ≤ a.toInt ∧ a.toInt < (σ.1 7 5).toInt) ∧ 0 ≤ b.toInt ∧ b.toInt ≤ 1) ∧ z.1 = (if σ.1 12 a.toNatClampNeg = 0 then 0 else 1) ∧ Fr gC 6144 (ux_wI σ 12 a.toNatClampNeg (vp_nar .boolean (if b = 1 then 1 else 0))) z.2)) (fX11_fall τ σ a b) := by
  have z0 := i_0
  have z1 := i_1
  have y1 := i_m1
  have k39 : ∀ s0 : Int32, Pt (fun z : Int32 × S2 => z.1 = s0 ∧ Fr gC 6144 (ux_wI σ 12 a.toNatClampNeg (vp_nar .boolean (if b = 1 then 1 else 0))) z.2) (fX11_fall_39 τ σ a b s0) := fun s0 => by
    unfold fX11_fall_39
    refine pt_if (fun c => ?_) (fun c => ?_)
    · rw [if_pos c]; exact c_fall_58
    · rw [if_neg c]; exact c_fall_58
  unfold fX11_fall fX11_fall_0
  refine pt_bi q_has (fun r hr => ?_)
  refine pt_eq (fun h => pt_some (Or.inl ⟨rfl, y1, by omega⟩)) (fun h1 => ?_)
  refine pt_lt (fun h => pt_some (Or.inl ⟨rfl, y1, by omega⟩)) (fun h2 => ?_)
  refine pt_le (fun h3 => ?_) (fun h => pt_some (Or.inl ⟨rfl, y1, by omega⟩))
  refine pt_ck (fun _ _ _ => pt_nm (fun v e => ?_))
  subst e
  refine pt_if (fun c => ?_) (fun c => ?_)
  · rw [if_pos c]; exact pt_mono (k39 0) (fun z hz => Or.inr ⟨by omega, hz⟩)
  · rw [if_neg c]; exact pt_mono (k39 1) (fun z hz => Or.inr ⟨by omega, hz⟩)
theorem m_fall_53 (n : Nat) {σ0 : S2} {x3 : Int32} : ∀ (σ : S2) (x1 x2 x4 : Int32), Fr gM 6144 σ0 σ → Pt (fun z : Int32 × S2 => z.1 = x3 ∧ Fr gM 6144 σ0 z.2) (fX12_fall_53 n σ x1 x2 x3 x4) := by
  induction n with
  | zero => intro σ x1 x2 x4 _; exact pt_none
  | succ n ih =>
    intro σ x1 x2 x4 hf
    unfold fX12_fall_53
    refine pt_if (fun _ => pt_some ⟨rfl, hf⟩) (fun _ => pt_if (fun _ => ?_) (fun _ => pt_some ⟨rfl, hf⟩))
    refine pt_ck (fun _ _ _ => pt_nm (fun _ e => ?_))
    subst e
    have hf := Fr.wI (x := 0) (k := 20) (i := ((40 * x1) + x4).toNatClampNeg) hf (show Nat.testBit 6144 11 = true from rfl)
    refine pt_ck (fun _ _ _ => pt_nm (fun _ e => ?_))
    subst e
    have hf := Fr.wI (x := 0) (k := 21) (i := ((40 * x1) + x4).toNatClampNeg) hf (show Nat.testBit 6144 12 = true from rfl)
    refine pt_ck (fun _ _ _ => pt_nm (fun _ e => ?_))
    subst e
    exact pt_nm (fun v _ => ih _ _ _ _ (Fr.wI (k := 22) hf (show Nat.testBit 6144 12 = true from rfl)))
theorem m_fall (hM : IvM 0 ρ) : Pt (fun z => (z.2 = ρ ∧ z.1.toInt = -1 ∧ ¬ ((0 ≤ a.toInt ∧ a.toInt < (ρ.1 0 3).toInt) ∧ 0 ≤ b.toInt ∧ b.toInt ≤ 1)) ∨ (((0 ≤ a.toInt ∧ a.toInt < (ρ.1 0 3).toInt) ∧ 0 ≤ b.toInt ∧ b.toInt ≤ 1) ∧ z.1 = (if ρ.1 7 a.toNatClampNeg = 0 then 0 else 1) ∧ Fr gM 6144 (ux_wI ρ 7 a.toNatClampNeg (vp_nar .boolean (if b = 1 then 1 else 0))) z.2)) (fX12_fall ρ a b) := by
  have z0 := i_0
  have z1 := i_1
  have y1 := i_m1
  have k49 : ∀ s0 x3 : Int32, Pt (fun z : Int32 × S2 => z.1 = x3 ∧ Fr gM 6144 (ux_wI ρ 7 a.toNatClampNeg (vp_nar .boolean s0)) z.2) (fX12_fall_49 ρ a b x3 s0 a) := fun s0 x3 => by
    unfold fX12_fall_49
    refine pt_ck (fun _ _ _ => pt_nm (fun _ e => ?_))
    subst e
    exact m_fall_53 FU _ _ _ _ (Fr.rf _)
  have k33 : ∀ s0 : Int32, Pt (fun z : Int32 × S2 => z.1 = s0 ∧ Fr gM 6144 (ux_wI ρ 7 a.toNatClampNeg (vp_nar .boolean (if b = 1 then 1 else 0))) z.2) (fX12_fall_33 ρ a b s0) := fun s0 => by
    unfold fX12_fall_33
    refine pt_if (fun c => ?_) (fun c => ?_)
    · rw [if_pos c]; exact k49 _ _
    · rw [if_neg c]; exact k49 _ _
  unfold fX12_fall fX12_fall_0
  refine pt_bi (q_keeperM hM) (fun r hr => ?_)
  refine pt_eq (fun h => pt_some (Or.inl ⟨rfl, y1, by omega⟩)) (fun h1 => ?_)
  refine pt_bi q_in (fun r2 hr2 => ?_)
  refine pt_eq (fun h => pt_some (Or.inl ⟨rfl, y1, by omega⟩)) (fun h2 => ?_)
  refine pt_ck (fun _ _ _ => pt_nm (fun v e => ?_))
  subst e
  refine pt_if (fun c => ?_) (fun c => ?_)
  · rw [if_pos c]; exact pt_mono (k33 0) (fun z hz => Or.inr ⟨by omega, hz⟩)
  · rw [if_neg c]; exact pt_mono (k33 1) (fun z hz => Or.inr ⟨by omega, hz⟩)
end KEEPERS
section STEPS
variable {σ ρ σ' ρ' : S2} {τ : Nat} {a b r q : Int32}
theorem st_strength (hR : RelA σ ρ) (hM : IvM 0 ρ) (h : fX11_strength τ σ a b = some (r, σ')) (h2 : fX12_strength ρ a b = some (q, ρ')) : r = q ∧ RelA σ' ρ' := by
  have p1 := c_strength (a := a) (b := b) _ h
  have p2 := m_strength (a := a) (b := b) hM _ h2
  obtain ⟨⟨k1, k2, k3, k4, k5⟩, hF, hA, hS, hE⟩ := hR
  have fc := wfX11_strength (m := 64) rfl τ σ a b (Fr.rf σ) _ h
  have fm := wfX12_strength (m := 64) rfl ρ a b (Fr.rf ρ) _ h2
  rw [k1] at p2
  rcases p1 with ⟨e, p1, p3⟩ | ⟨g, e, e2⟩ <;> rcases p2 with ⟨d, p2, p4⟩ | ⟨f, d, d2⟩
  · have e : σ' = σ := e
    have d : ρ' = ρ := d
    subst e; subst d
    exact ⟨Int32.toInt_inj.mp (Eq.trans p1 (Eq.symm p2)), ⟨k1, k2, k3, k4, k5⟩, hF, hA, hS, hE⟩
  · exfalso; exact p3 f
  · exfalso; exact p4 g
  · have e2 : σ' = _ := e2
    have d2 : ρ' = _ := d2
    refine ⟨Eq.trans e (Eq.trans (k5 _).symm (Eq.symm d)), ⟨?_, fun i => ?_, fun i hi => ?_, fun i => ?_, fun i => ?_⟩, hF.fr fc fm rfl rfl, hA.fr fc fm rfl rfl, hS.fr fc fm rfl rfl (by rw [(fc 7 5 rfl).1]; exact Int.le_refl _), hE.fr fc fm rfl rfl⟩
    · rw [(fc 7 5 rfl).1, (fm 0 3 rfl).1]; exact k1
    · rw [(fc.at 8 i 4 rfl rfl), (fm.at 5 i 4 rfl rfl)]; exact k2 i
    · rw [(fc.at 8 i 4 rfl rfl)]; rw [(fc 7 5 rfl).1] at hi; exact k3 i hi
    · rw [(fc.at 9 i 5 rfl rfl), (fm.at 3 i 5 rfl rfl)]; exact k4 i
    · rw [e2, d2]
      show (if i = a.toNatClampNeg then b else ρ.1 4 i) = (if i = a.toNatClampNeg then b else σ.1 10 i)
      rw [k5 i]
theorem st_become (hR : RelA σ ρ) (hM : IvM 0 ρ) (h : fX11_become τ σ a b = some (r, σ')) (h2 : fX12_become ρ a b = some (q, ρ')) : r = q ∧ RelA σ' ρ' := by
  have p1 := c_become (a := a) (b := b) _ h
  have p2 := m_become (a := a) (b := b) hM _ h2
  obtain ⟨⟨k1, k2, k3, k4, k5⟩, hF, hA, hS, hE⟩ := hR
  have fc := wfX11_become (m := 6160) rfl τ σ a b (Fr.rf σ) _ h
  have fm := wfX12_become (m := 6160) rfl ρ a b (Fr.rf ρ) _ h2
  rw [k1] at p2
  rcases p1 with ⟨e, p1, p3⟩ | ⟨g, e, e2⟩ <;> rcases p2 with ⟨d, p2, p4⟩ | ⟨f, d, d2⟩
  · have e : σ' = σ := e
    have d : ρ' = ρ := d
    subst e; subst d
    exact ⟨Int32.toInt_inj.mp (Eq.trans p1 (Eq.symm p2)), ⟨k1, k2, k3, k4, k5⟩, hF, hA, hS, hE⟩
  · exfalso; exact p3 f
  · exfalso; exact p4 g
  · have e8 : ∀ i : Nat, σ'.1 8 i = if i = a.toNatClampNeg then b else σ.1 8 i := fun i => Fr.at e2 8 i 4 rfl rfl
    have d5 : ∀ i : Nat, ρ'.1 5 i = if i = a.toNatClampNeg then b else ρ.1 5 i := fun i => Fr.at d2 5 i 4 rfl rfl
    have n1 := i32_nat g.1.1
    refine ⟨Eq.trans e (Eq.trans (k2 _).symm (Eq.symm d)), ⟨?_, fun i => ?_, fun i hi => ?_, fun i => ?_, fun i => ?_⟩, hF.fr fc fm rfl rfl, hA.fr fc fm rfl rfl, hS.fr fc fm rfl rfl (by rw [(fc 7 5 rfl).1]; exact Int.le_refl _), hE.fr fc fm rfl rfl⟩
    · rw [(fc 7 5 rfl).1, (fm 0 3 rfl).1]; exact k1
    · rw [e8 i, d5 i, k2 i]
    · rw [(fc 7 5 rfl).1] at hi
      rw [e8 i, if_neg (by omega)]; exact k3 i hi
    · rw [(fc.at 9 i 5 rfl rfl), (fm.at 3 i 5 rfl rfl)]; exact k4 i
    · rw [(fc.at 10 i 6 rfl rfl), (fm.at 4 i 6 rfl rfl)]; exact k5 i
theorem st_fall (hR : RelA σ ρ) (hM : IvM 0 ρ) (h : fX11_fall τ σ a b = some (r, σ')) (h2 : fX12_fall ρ a b = some (q, ρ')) : r = q ∧ RelA σ' ρ' := by
  have p1 := c_fall (a := a) (b := b) _ h
  have p2 := m_fall (a := a) (b := b) hM _ h2
  obtain ⟨hk, hF, hA, hS, hE⟩ := hR
  have fc := wfX11_fall (m := 6400) rfl τ σ a b (Fr.rf σ) _ h
  have fm := wfX12_fall (m := 6400) rfl ρ a b (Fr.rf ρ) _ h2
  rw [hk.1] at p2
  rcases p1 with ⟨e, p1, p3⟩ | ⟨g, e, e2⟩ <;> rcases p2 with ⟨d, p2, p4⟩ | ⟨f, d, d2⟩
  · have e : σ' = σ := e
    have d : ρ' = ρ := d
    subst e; subst d
    exact ⟨Int32.toInt_inj.mp (Eq.trans p1 (Eq.symm p2)), hk, hF, hA, hS, hE⟩
  · exfalso; exact p3 f
  · exfalso; exact p4 g
  · refine ⟨?_, hk.fr fc fm rfl rfl rfl rfl rfl rfl rfl rfl, fun i => ?_, hA.fr fc fm rfl rfl, hS.fr fc fm rfl rfl (by rw [(fc 7 5 rfl).1]; exact Int.le_refl _), hE.fr fc fm rfl rfl⟩
    · have e : r = _ := e
      have d : q = _ := d
      rw [e, d, hF]
    · have e8 : σ'.1 12 i = if i = a.toNatClampNeg then _ else σ.1 12 i := Fr.at e2 12 i 8 rfl rfl
      have d5 : ρ'.1 7 i = if i = a.toNatClampNeg then _ else ρ.1 7 i := Fr.at d2 7 i 8 rfl rfl
      rw [e8, d5, hF i]
end STEPS
