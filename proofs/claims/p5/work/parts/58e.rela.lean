/-! the relation of class (σ) and reference (ρ): keepers, falls, acts, shelves, elements -/
def RK (σ ρ : S2) : Prop := ρ.1 0 3 = σ.1 7 5 ∧ (∀ i : Nat, ρ.1 5 i = σ.1 8 i) ∧ (∀ i : Nat, (σ.1 7 5).toInt ≤ (i : Int) → σ.1 8 i = 0) ∧ (∀ i : Nat, ρ.1 3 i = σ.1 9 i) ∧ ∀ i : Nat, ρ.1 4 i = σ.1 10 i
def RF (σ ρ : S2) : Prop := ∀ i : Nat, ρ.1 7 i = σ.1 12 i
def RA (σ ρ : S2) : Prop := ρ.1 0 38 = σ.1 35 1 ∧ ∀ i : Nat, ρ.1 29 i = σ.1 36 i
def RS (σ ρ : S2) : Prop := ∀ i : Nat, i < 6 → ρ.1 30 i = σ.1 38 i ∧ ρ.1 31 i = σ.1 39 i ∧ (σ.1 39 i ≠ -1 → ρ.1 32 i = σ.1 40 i ∧ σ.1 38 i = -1) ∧ (σ.1 38 i).toInt < (σ.1 7 5).toInt
def RE (σ ρ : S2) : Prop := ∀ s i : Nat, s < 6 → i < 60 → ρ.2 33 (60 * s + i) = σ.2 (176 + s) i
def RelA (σ ρ : S2) : Prop := RK σ ρ ∧ RF σ ρ ∧ RA σ ρ ∧ RS σ ρ ∧ RE σ ρ
theorem gC_el {s i : Nat} (h : s < 6) : gC (176 + s) i = 22 := by
  unfold gC
  rw [if_neg (by omega), if_neg (by omega), if_neg (by omega), if_neg (by omega), if_neg (by omega), if_neg (by omega), if_neg (by omega), if_neg (by omega), if_pos (by omega)]
section FRAMES
variable {σ ρ σ' ρ' : S2} {a b : Nat}
theorem RK.fr (h : RK σ ρ) (hc : Fr gC a σ σ') (hm : Fr gM b ρ ρ') (e3 : a.testBit 3 = false) (e4 : a.testBit 4 = false) (e5 : a.testBit 5 = false) (e6 : a.testBit 6 = false) (f3 : b.testBit 3 = false) (f4 : b.testBit 4 = false) (f5 : b.testBit 5 = false) (f6 : b.testBit 6 = false) : RK σ' ρ' := by
  obtain ⟨h1, h2, h3, h4, h5⟩ := h
  have c := (hc 7 5 e3).1
  refine ⟨?_, fun i => ?_, fun i q => ?_, fun i => ?_, fun i => ?_⟩
  · rw [c, (hm 0 3 f3).1]; exact h1
  · rw [(hc 8 i e4).1, (hm 5 i f4).1]; exact h2 i
  · rw [(hc 8 i e4).1]; exact h3 i (by rw [c] at q; exact q)
  · rw [(hc 9 i e5).1, (hm 3 i f5).1]; exact h4 i
  · rw [(hc 10 i e6).1, (hm 4 i f6).1]; exact h5 i
theorem RF.fr (h : RF σ ρ) (hc : Fr gC a σ σ') (hm : Fr gM b ρ ρ') (e8 : a.testBit 8 = false) (f8 : b.testBit 8 = false) : RF σ' ρ' := fun i => by
  rw [(hc 12 i e8).1, (hm 7 i f8).1]; exact h i
theorem RA.fr (h : RA σ ρ) (hc : Fr gC a σ σ') (hm : Fr gM b ρ ρ') (e : a.testBit 20 = false) (f : b.testBit 20 = false) : RA σ' ρ' := by
  refine ⟨?_, fun i => ?_⟩
  · rw [(hc 35 1 e).1, (hm 0 38 f).1]; exact h.1
  · rw [(hc 36 i e).1, (hm 29 i f).1]; exact h.2 i
theorem RS.fr (h : RS σ ρ) (hc : Fr gC a σ σ') (hm : Fr gM b ρ ρ') (e : a.testBit 21 = false) (f : b.testBit 21 = false) (e3 : (σ.1 7 5).toInt ≤ (σ'.1 7 5).toInt) : RS σ' ρ' := fun i hi => by
  obtain ⟨h1, h2, h3, h4⟩ := h i hi
  rw [(hc 38 i e).1, (hc 39 i e).1, (hc 40 i e).1, (hm 30 i f).1, (hm 31 i f).1, (hm 32 i f).1]
  exact ⟨h1, h2, h3, by omega⟩
theorem RE.fr (h : RE σ ρ) (hc : Fr gC a σ σ') (hm : Fr gM b ρ ρ') (e : a.testBit 22 = false) (f : b.testBit 22 = false) : RE σ' ρ' := fun s i hs hi => by
  rw [(hc (176 + s) i (by rw [gC_el hs]; exact e)).2, (hm 33 _ f).2]; exact h s i hs hi
end FRAMES
section KEEPERS
variable {σ ρ : S2} {τ : Nat} {a b : Int32}
theorem c_keeper (hI : IvC 0 τ σ) : Pt (fun z => (z.2 = σ ∧ ((z.1.toInt = -1 ∧ ¬ (0 ≤ a.toInt ∧ a.toInt ≤ 5 ∧ 1 ≤ b.toInt ∧ b.toInt ≤ 8)) ∨ (z.1.toInt = -3 ∧ (0 ≤ a.toInt ∧ a.toInt ≤ 5 ∧ 1 ≤ b.toInt ∧ b.toInt ≤ 8) ∧ 12 ≤ (σ.1 7 5).toInt))) ∨ ((0 ≤ a.toInt ∧ a.toInt ≤ 5 ∧ 1 ≤ b.toInt ∧ b.toInt ≤ 8) ∧ (σ.1 7 5).toInt < 12 ∧ z.1 = σ.1 7 5 ∧ z.2.1 7 5 = σ.1 7 5 + 1 ∧ (∀ i : Nat, z.2.1 8 i = if i = (σ.1 7 5).toNatClampNeg then 0 else σ.1 8 i) ∧ (∀ i : Nat, z.2.1 9 i = if i = (σ.1 7 5).toNatClampNeg then a else σ.1 9 i) ∧ ∀ i : Nat, z.2.1 10 i = if i = (σ.1 7 5).toNatClampNeg then b else σ.1 10 i)) (fX11_keeper τ σ a b) := by
  have z0 := i_0
  have z5 := i_5
  have z12 := i_12
  have y1 := i_m1
  have y3 := i_m3
  unfold fX11_keeper fX11_keeper_0
  refine pt_lt (fun h => pt_some (Or.inl ⟨rfl, Or.inl ⟨y1, by omega⟩⟩)) (fun h1 => ?_)
  refine pt_lt (fun h => pt_some (Or.inl ⟨rfl, Or.inl ⟨y1, by omega⟩⟩)) (fun h2 => ?_)
  refine pt_bi q_str (fun r hr => ?_)
  refine pt_eq (fun h => pt_some (Or.inl ⟨rfl, Or.inl ⟨y1, by omega⟩⟩)) (fun h3 => ?_)
  refine pt_lt (fun h4 => ?_) (fun h => pt_some (Or.inl ⟨rfl, Or.inr ⟨y3, by omega, by omega⟩⟩))
  refine pt_bs (P := fun z => z.1 = σ.1 7 5 ∧ z.2.1 7 5 = σ.1 7 5 + 1 ∧ (∀ i : Nat, z.2.1 8 i = if i = (σ.1 7 5).toNatClampNeg then 0 else σ.1 8 i) ∧ (∀ i : Nat, z.2.1 9 i = if i = (σ.1 7 5).toNatClampNeg then a else σ.1 9 i) ∧ ∀ i : Nat, z.2.1 10 i = if i = (σ.1 7 5).toNatClampNeg then b else σ.1 10 i) ?_ (fun r4 σ4 h5 => pt_some (Or.inr ⟨by omega, by omega, h5⟩))
  unfold fX2_add fX2_add_0
  refine pt_ck (fun _ _ _ => pt_nm (fun s1 e1 => ?_))
  subst e1
  refine pt_ck (fun _ _ _ => pt_nm (fun s1 e1 => ?_))
  subst e1
  refine pt_ck (fun _ _ _ => pt_nm (fun s1 e1 => ?_))
  subst e1
  refine pt_ck (fun _ _ _ => pt_nm (fun s1 e1 => ?_))
  subst e1
  refine pt_nm (fun s1 e1 => ?_)
  subst e1
  refine pt_some ⟨?_, rfl, fun i => ?_, fun i => ?_, fun i => ?_⟩
  · show σ.1 7 5 + 1 - 1 = σ.1 7 5
    exact Int32.add_sub_cancel _ _
  · rfl
  · rfl
  · rfl
theorem m_keeper (hM : IvM 0 ρ) : Pt (fun z => (z.2 = ρ ∧ ((z.1.toInt = -1 ∧ ¬ (0 ≤ a.toInt ∧ a.toInt ≤ 5 ∧ 1 ≤ b.toInt ∧ b.toInt ≤ 8)) ∨ (z.1.toInt = -3 ∧ (0 ≤ a.toInt ∧ a.toInt ≤ 5 ∧ 1 ≤ b.toInt ∧ b.toInt ≤ 8) ∧ (ρ.1 0 3).toInt = 12))) ∨ ((0 ≤ a.toInt ∧ a.toInt ≤ 5 ∧ 1 ≤ b.toInt ∧ b.toInt ≤ 8) ∧ (ρ.1 0 3).toInt ≠ 12 ∧ z.1 = ρ.1 0 3 ∧ z.2.1 0 3 = ρ.1 0 3 + 1 ∧ (∀ i : Nat, z.2.1 5 i = ρ.1 5 i) ∧ (∀ i : Nat, z.2.1 3 i = if i = (ρ.1 0 3).toNatClampNeg then a else ρ.1 3 i) ∧ ∀ i : Nat, z.2.1 4 i = if i = (ρ.1 0 3).toNatClampNeg then b else ρ.1 4 i)) (fX12_keeper ρ a b) := by
  have z0 := i_0
  have z1 := i_1
  have z5 := i_5
  have z8 := i_8
  have z12 := i_12
  have y1 := i_m1
  have y3 := i_m3
  unfold fX12_keeper fX12_keeper_0
  refine pt_bi q_in (fun r hr => ?_)
  refine pt_eq (fun h => pt_some (Or.inl ⟨rfl, Or.inl ⟨y1, by omega⟩⟩)) (fun h1 => ?_)
  refine pt_bi q_in (fun r2 hr2 => ?_)
  refine pt_eq (fun h => pt_some (Or.inl ⟨rfl, Or.inl ⟨y1, by omega⟩⟩)) (fun h2 => ?_)
  refine pt_eq (fun h => pt_some (Or.inl ⟨rfl, Or.inr ⟨y3, by omega, by omega⟩⟩)) (fun h3 => ?_)
  refine pt_ck (fun _ _ _ => pt_nm (fun s1 e1 => ?_))
  subst e1
  refine pt_ck (fun _ _ _ => pt_nm (fun s1 e1 => ?_))
  subst e1
  refine pt_nm (fun s1 e1 => ?_)
  subst e1
  refine pt_some (Or.inr ⟨by omega, by omega, ?_, rfl, fun i => ?_, fun i => ?_, fun i => ?_⟩)
  · show ρ.1 0 3 + 1 - 1 = ρ.1 0 3
    exact Int32.add_sub_cancel _ _
  · rfl
  · rfl
  · rfl
end KEEPERS
theorem st_keeper {σ ρ σ' ρ' : S2} {τ : Nat} {a b r q : Int32} (hR : RelA σ ρ) (hI : IvC 0 τ σ) (hM : IvM 0 ρ) (h : fX11_keeper τ σ a b = some (r, σ')) (h2 : fX12_keeper ρ a b = some (q, ρ')) : r = q ∧ RelA σ' ρ' := by
  have y1 := i_m1
  have y3 := i_m3
  have z1 := i_1
  have p1 := c_keeper (a := a) (b := b) hI _ h
  have p2 := m_keeper (a := a) (b := b) hM _ h2
  obtain ⟨⟨k1, k2, k3, k4, k5⟩, hF, hA, hS, hE⟩ := hR
  have b1 : 0 ≤ (σ.1 7 5).toInt ∧ (σ.1 7 5).toInt ≤ 12 := hI.1 7 5
  have fc := wfX11_keeper (m := 248) rfl τ σ a b (Fr.rf σ) _ h
  have fm := wfX12_keeper (m := 104) rfl ρ a b (Fr.rf ρ) _ h2
  have n1 := i32_nat b1.1
  rw [k1] at p2
  rcases p1 with ⟨e, p1⟩ | ⟨g, g2, e, e2, e3, e4, e5⟩ <;> rcases p2 with ⟨d, p2⟩ | ⟨f, f2, d, d2, d3, d4, d5⟩
  · have e : σ' = σ := e
    have d : ρ' = ρ := d
    subst e; subst d
    refine ⟨Int32.toInt_inj.mp ?_, ⟨k1, k2, k3, k4, k5⟩, hF, hA, hS, hE⟩
    show r.toInt = q.toInt
    have p1' : (r.toInt = -1 ∧ _) ∨ (r.toInt = -3 ∧ _) := p1
    have p2' : (q.toInt = -1 ∧ _) ∨ (q.toInt = -3 ∧ _) := p2
    omega
  · exfalso; omega
  · exfalso; omega
  · have s1 : (σ.1 7 5 + 1).toInt = (σ.1 7 5).toInt + 1 := by rw [i32_add (by omega) (by omega)]; omega
    have e2 : σ'.1 7 5 = σ.1 7 5 + 1 := e2
    refine ⟨e.trans d.symm, ⟨?_, fun i => ?_, fun i hi => ?_, fun i => ?_, fun i => ?_⟩, hF.fr fc fm rfl rfl, hA.fr fc fm rfl rfl, hS.fr fc fm rfl rfl (by rw [e2, s1]; omega), hE.fr fc fm rfl rfl⟩
    · exact d2.trans e2.symm
    · show ρ'.1 5 i = σ'.1 8 i
      rw [show ρ'.1 5 i = _ from d3 i, show σ'.1 8 i = _ from e3 i, k2 i]
      by_cases c : i = (σ.1 7 5).toNatClampNeg
      · rw [if_pos c]; exact k3 i (by omega)
      · rw [if_neg c]
    · show σ'.1 8 i = 0
      rw [show σ'.1 8 i = _ from e3 i]
      by_cases c : i = (σ.1 7 5).toNatClampNeg
      · rw [if_pos c]
      · rw [if_neg c]; rw [show (σ', r).1.1 7 5 = σ.1 7 5 + 1 from e2, s1] at hi; exact k3 i (by omega)
    · show ρ'.1 3 i = σ'.1 9 i
      rw [show ρ'.1 3 i = _ from d4 i, show σ'.1 9 i = _ from e4 i, k4 i]
    · show ρ'.1 4 i = σ'.1 10 i
      rw [show ρ'.1 4 i = _ from d5 i, show σ'.1 10 i = _ from e5 i, k5 i]
