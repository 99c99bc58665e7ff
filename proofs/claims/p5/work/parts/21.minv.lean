def loM (k i : Nat) : Int := match k with
  | 0 => (match i with | 0 => 0 | 3 => 0 | 9 => 0 | 22 => 0 | 29 => (-2147483648) | 30 => 0 | 32 => 0 | 34 => 0 | 36 => (-1) | 38 => 0 | 44 => 0 | 45 => 0 | 46 => 0 | 47 => 0 | 48 => (-2147483648) | 49 => (-2147483648) | 50 => (-2147483648) | 51 => 0 | 53 => 0 | 55 => 0 | _ => (-2147483648))
  | 1 => 0
  | 2 => 0
  | 3 => 0
  | 4 => 0
  | 5 => 0
  | 6 => (-1)
  | 7 => 0
  | 8 => 0
  | 10 => 0
  | 11 => 0
  | 12 => (-49)
  | 13 => 0
  | 14 => 0
  | 15 => 0
  | 16 => 0
  | 18 => (-1)
  | 19 => 0
  | 22 => (-2)
  | 24 => 0
  | 26 => 0
  | 27 => 0
  | 29 => 0
  | 30 => (-1)
  | 31 => (-1)
  | 32 => 0
  | 33 => 0
  | 34 => 0
  | 35 => 0
  | 36 => 0
  | 38 => 0
  | 39 => 0
  | _ => (-2147483648)
def hiM (k i : Nat) : Int := match k with
  | 0 => (match i with | 0 => 40 | 3 => 12 | 9 => 10 | 22 => 80 | 29 => 2147483647 | 30 => 5 | 32 => 5 | 34 => 6 | 36 => 2147483647 | 38 => 1000 | 44 => 10 | 45 => 80 | 46 => 4 | 47 => 1 | 48 => 2147483647 | 49 => 2147483647 | 50 => 2147483647 | 51 => 16 | 53 => 12 | 55 => 4 | _ => 2147483647)
  | 1 => 6
  | 2 => 255
  | 3 => 5
  | 4 => 8
  | 5 => 6
  | 6 => 9
  | 7 => 1
  | 8 => 4095
  | 10 => 4
  | 11 => 4
  | 12 => 207
  | 13 => 80
  | 14 => 255
  | 15 => 16
  | 16 => 5
  | 18 => 11
  | 19 => 255
  | 22 => 11
  | 24 => 11
  | 26 => 11
  | 27 => 4
  | 29 => 71
  | 30 => 11
  | 31 => 4
  | 32 => 60
  | 33 => 0
  | 34 => 255
  | 35 => 11
  | 36 => 11
  | 38 => 4095
  | 39 => 4
  | _ => 2147483647
def BvM (σ : S2) : Prop := ∀ k i, loM k i ≤ (σ.1 k i).toInt ∧ (σ.1 k i).toInt ≤ hiM k i
def FaM (σ : S2) (t : Nat) : Prop := ((0 ≤ (σ.1 8 t).toInt ∧ (σ.1 8 t).toInt < 2 ^ (σ.1 0 3).toInt.toNat) ∧ ∀ k : Nat, k < 12 → (σ.1 8 t).toInt.toNat.testBit k = true → 1 ≤ (σ.1 15 (12 * t + k)).toInt) ∧ (∀ k : Nat, k < 12 → (σ.1 8 t).toInt.toNat.testBit k = true → ∃ p, p < 1000 ∧ (σ.1 18 (1000 * t + p)).toInt = (k : Int)) ∧ ((σ.1 8 t).toInt = 0 ∨ ∀ p, p < 1000 → (σ.1 18 (1000 * t + p)).toInt = -1 ∨ (0 ≤ (σ.1 18 (1000 * t + p)).toInt ∧ (σ.1 8 t).toInt.toNat.testBit (σ.1 18 (1000 * t + p)).toInt.toNat = true))
def CoM (σ : S2) (t : Nat) : Prop := (0 ≤ (σ.1 8 t).toInt ∧ (σ.1 8 t).toInt < 2 ^ (σ.1 0 3).toInt.toNat) ∧ ∀ k : Nat, k < 12 → (σ.1 8 t).toInt.toNat.testBit k = true → 1 ≤ (σ.1 15 (12 * t + k)).toInt
def TbM (g : Nat) (σ : S2) : Prop := (∀ k : Nat, (k : Int) < (σ.1 0 3).toInt → 1 ≤ (σ.1 4 k).toInt) ∧ (∀ t : Nat, ((t : Int) < (σ.1 0 9).toInt ∨ (t = 10 ∧ g = 0)) → FaM σ t) ∧ (∀ k : Nat, (σ.1 6 k).toInt < (σ.1 0 9).toInt) ∧ (∀ i : Nat, (σ.1 26 i).toInt < (σ.1 0 3).toInt ∨ (σ.1 26 i).toInt = 0) ∧ ((σ.1 0 9).toInt = 0 ∨ 1 ≤ (σ.1 0 3).toInt)
def IvM (g : Nat) (σ : S2) : Prop := BvM σ ∧ TbM g σ
def okM (k i : Nat) : Bool := !(k == 4 || k == 8 || k == 15 || k == 18 || k == 6 || k == 26 || (k == 0 && (i == 3 || i == 9)))
theorem ux_wI_ne {σ : S2} {k i : Nat} {x : Int32} {k' i' : Nat} (h : ¬ (k' = k ∧ i' = i)) : (ux_wI σ k i x).1 k' i' = σ.1 k' i' := by
  show (if k' = k then upd (σ.1 k) i x else σ.1 k') i' = _
  by_cases hk : k' = k
  · subst hk
    rw [if_pos rfl]
    show (if i' = i then x else σ.1 k' i') = _
    rw [if_neg (fun q => h ⟨rfl, q⟩)]
  · rw [if_neg hk]
theorem ux_wI_eq {σ : S2} {k i : Nat} {x : Int32} : (ux_wI σ k i x).1 k i = x := by
  show (if k = k then upd (σ.1 k) i x else σ.1 k) i = _
  rw [if_pos rfl]
  show (if i = i then x else σ.1 k i) = _
  rw [if_pos rfl]
/-- the places that FaM reads are the same -/
theorem FaM.of {σ τ : S2} {t : Nat} (h : FaM σ t) (h8 : τ.1 8 t = σ.1 8 t) (h3 : (σ.1 0 3).toInt ≤ (τ.1 0 3).toInt) (h15 : ∀ k, k < 12 → τ.1 15 (12 * t + k) = σ.1 15 (12 * t + k)) (h18 : ∀ p, p < 1000 → τ.1 18 (1000 * t + p) = σ.1 18 (1000 * t + p)) : FaM τ t := by
  obtain ⟨⟨⟨a1, a2⟩, a3⟩, a4, a5⟩ := h
  refine ⟨⟨⟨by rw [h8]; exact a1, ?_⟩, fun k hk hb => ?_⟩, fun k hk hb => ?_, a5.imp (fun e => by rw [h8]; exact e) (fun f p hp => ?_)⟩
  · rw [h8]
    have : (2 : Int) ^ (σ.1 0 3).toInt.toNat ≤ 2 ^ (τ.1 0 3).toInt.toNat := by
      have := Nat.pow_le_pow_right (n := 2) (by decide) (show (σ.1 0 3).toInt.toNat ≤ (τ.1 0 3).toInt.toNat by omega)
      exact_mod_cast this
    omega
  · rw [h15 k hk]; exact a3 k hk (by rw [← h8]; exact hb)
  · obtain ⟨p, hp, e⟩ := a4 k hk (by rw [← h8]; exact hb)
    exact ⟨p, hp, by rw [h18 p hp]; exact e⟩
  · rw [h18 p hp, h8]; exact f p hp
theorem BvM.wI {σ : S2} {k i : Nat} {x : Int32} (h : BvM σ) (h1 : loM k i ≤ x.toInt) (h2 : x.toInt ≤ hiM k i) : BvM (ux_wI σ k i x) := by
  intro k' i'
  by_cases hk : k' = k ∧ i' = i
  · obtain ⟨rfl, rfl⟩ := hk
    rw [ux_wI_eq]; exact ⟨h1, h2⟩
  · rw [ux_wI_ne hk]; exact h k' i'
theorem IvM.wI {g : Nat} {σ : S2} {k i : Nat} {x : Int32} (h : IvM g σ) (hk : okM k i = true) (h1 : loM k i ≤ x.toInt) (h2 : x.toInt ≤ hiM k i) : IvM g (ux_wI σ k i x) := by
  have e4 : ∀ j, (ux_wI σ k i x).1 4 j = σ.1 4 j := fun j => ux_wI_ne (by rintro ⟨rfl, rfl⟩; exact absurd hk (by simp [okM]))
  have e8 : ∀ j, (ux_wI σ k i x).1 8 j = σ.1 8 j := fun j => ux_wI_ne (by rintro ⟨rfl, rfl⟩; exact absurd hk (by simp [okM]))
  have e15 : ∀ j, (ux_wI σ k i x).1 15 j = σ.1 15 j := fun j => ux_wI_ne (by rintro ⟨rfl, rfl⟩; exact absurd hk (by simp [okM]))
  have e18 : ∀ j, (ux_wI σ k i x).1 18 j = σ.1 18 j := fun j => ux_wI_ne (by rintro ⟨rfl, rfl⟩; exact absurd hk (by simp [okM]))
  have e6 : ∀ j, (ux_wI σ k i x).1 6 j = σ.1 6 j := fun j => ux_wI_ne (by rintro ⟨rfl, rfl⟩; exact absurd hk (by simp [okM]))
  have e26 : ∀ j, (ux_wI σ k i x).1 26 j = σ.1 26 j := fun j => ux_wI_ne (by rintro ⟨rfl, rfl⟩; exact absurd hk (by simp [okM]))
  have e03 : (ux_wI σ k i x).1 0 3 = σ.1 0 3 := ux_wI_ne (by rintro ⟨rfl, rfl⟩; exact absurd hk (by decide))
  have e09 : (ux_wI σ k i x).1 0 9 = σ.1 0 9 := ux_wI_ne (by rintro ⟨rfl, rfl⟩; exact absurd hk (by decide))
  refine ⟨h.1.wI h1 h2, fun j hj => ?_, fun t ht => ?_, fun j => ?_, fun j => ?_, ?_⟩
  · rw [e4]; exact h.2.1 j (by rw [e03] at hj; exact hj)
  · exact (h.2.2.1 t (by rw [e09] at ht; exact ht)).of (e8 t) (by rw [e03]; omega) (fun k _ => e15 _) (fun p _ => e18 _)
  · rw [e6, e09]; exact h.2.2.2.1 j
  · rw [e26, e03]; exact h.2.2.2.2.1 j
  · rw [e09, e03]; exact h.2.2.2.2.2
theorem IvM.wL {g : Nat} {σ : S2} {k i : Nat} {x : Int64} (h : IvM g σ) : IvM g (ux_wL σ k i x) := ⟨fun k' i' => h.1 k' i', h.2⟩
theorem IvM.w4 {g : Nat} {σ : S2} {i : Nat} {x : Int32} (h : IvM g σ) (h0 : 1 ≤ x.toInt) (h1 : loM 4 i ≤ x.toInt) (h2 : x.toInt ≤ hiM 4 i) : IvM g (ux_wI σ 4 i x) := by
  refine ⟨h.1.wI h1 h2, fun j hj => ?_, fun t ht => (h.2.2.1 t ht).of rfl (Int.le_refl _) (fun _ _ => rfl) (fun _ _ => rfl), h.2.2.2⟩
  by_cases e : j = i
  · subst e; rw [ux_wI_eq]; exact h0
  · rw [ux_wI_ne (fun q => e q.2)]; exact h.2.1 j hj
theorem IvM.w03 {g : Nat} {σ : S2} {x : Int32} (i : Nat) (h : IvM g σ) (hi : (i : Int) = (σ.1 0 3).toInt) (hs : 1 ≤ (σ.1 4 i).toInt) (hx : x.toInt = (σ.1 0 3).toInt + 1) (h1 : loM 0 3 ≤ x.toInt) (h2 : x.toInt ≤ hiM 0 3) : IvM g (ux_wI σ 0 3 x) := by
  refine ⟨h.1.wI h1 h2, fun j hj => ?_, fun t ht => (h.2.2.1 t ht).of rfl ?_ (fun _ _ => rfl) (fun _ _ => rfl), h.2.2.2.1, fun j => ?_, ?_⟩
  · rw [ux_wI_eq] at hj
    rw [ux_wI_ne (by rintro ⟨q, _⟩; exact absurd q (by decide))]
    by_cases e : j = i
    · subst e; exact hs
    · exact h.2.1 j (by omega)
  · rw [ux_wI_eq]; omega
  · have := h.2.2.2.2.1 j
    rw [ux_wI_eq, ux_wI_ne (by rintro ⟨q, _⟩; exact absurd q (by decide))]; omega
  · have := h.1 0 3
    have e : loM 0 3 = 0 := rfl
    rw [ux_wI_eq]; omega
theorem IvM.w8 {g : Nat} {σ : S2} {i : Nat} {x : Int32} (h : IvM g σ) (hi : (σ.1 0 9).toInt ≤ (i : Int)) (hg : i ≠ 10 ∨ g ≠ 0) (h1 : loM 8 i ≤ x.toInt) (h2 : x.toInt ≤ hiM 8 i) : IvM g (ux_wI σ 8 i x) := by
  refine ⟨h.1.wI h1 h2, h.2.1, fun t ht => ?_, h.2.2.2⟩
  have ht' : (t : Int) < (σ.1 0 9).toInt ∨ (t = 10 ∧ g = 0) := ht
  exact (h.2.2.1 t ht).of (ux_wI_ne (by rintro ⟨_, q⟩; omega)) (Int.le_refl _) (fun _ _ => rfl) (fun _ _ => rfl)
theorem IvM.w15 {g : Nat} {σ : S2} {i : Nat} {x : Int32} (h : IvM g σ) (hi : 12 * (σ.1 0 9).toInt ≤ (i : Int)) (hg : i < 120 ∨ g ≠ 0) (h1 : loM 15 i ≤ x.toInt) (h2 : x.toInt ≤ hiM 15 i) : IvM g (ux_wI σ 15 i x) := by
  refine ⟨h.1.wI h1 h2, h.2.1, fun t ht => ?_, h.2.2.2⟩
  have ht' : (t : Int) < (σ.1 0 9).toInt ∨ (t = 10 ∧ g = 0) := ht
  exact (h.2.2.1 t ht).of rfl (Int.le_refl _) (fun k hk => ux_wI_ne (by rintro ⟨_, q⟩; omega)) (fun _ _ => rfl)
theorem IvM.w18 {g : Nat} {σ : S2} {i : Nat} {x : Int32} (h : IvM g σ) (hi : 1000 * (σ.1 0 9).toInt ≤ (i : Int)) (hg : i < 10000 ∨ g ≠ 0) (h1 : loM 18 i ≤ x.toInt) (h2 : x.toInt ≤ hiM 18 i) : IvM g (ux_wI σ 18 i x) := by
  refine ⟨h.1.wI h1 h2, h.2.1, fun t ht => ?_, h.2.2.2⟩
  have ht' : (t : Int) < (σ.1 0 9).toInt ∨ (t = 10 ∧ g = 0) := ht
  exact (h.2.2.1 t ht).of rfl (Int.le_refl _) (fun _ _ => rfl) (fun p hp => ux_wI_ne (by rintro ⟨_, q⟩; omega))
theorem IvM.w09 {g : Nat} {σ : S2} {x : Int32} (t : Nat) (h : IvM g σ) (ht : (t : Int) = (σ.1 0 9).toInt) (hf : FaM σ t) (hx : x.toInt = (σ.1 0 9).toInt + 1) (hk : 1 ≤ (σ.1 0 3).toInt) (h1 : loM 0 9 ≤ x.toInt) (h2 : x.toInt ≤ hiM 0 9) : IvM g (ux_wI σ 0 9 x) := by
  refine ⟨h.1.wI h1 h2, h.2.1, fun u hu => ?_, fun k => ?_, h.2.2.2.2.1, Or.inr hk⟩
  · rw [ux_wI_eq] at hu
    have : FaM σ u := by
      by_cases e : u = t
      · subst e; exact hf
      · exact h.2.2.1 u (by omega)
    exact this.of rfl (Int.le_refl _) (fun _ _ => rfl) (fun _ _ => rfl)
  · have := h.2.2.2.1 k
    rw [ux_wI_eq, ux_wI_ne (by rintro ⟨q, _⟩; exact absurd q (by decide))]; omega
theorem IvM.w6 {g : Nat} {σ : S2} {i : Nat} {x : Int32} (h : IvM g σ) (h0 : x.toInt < (σ.1 0 9).toInt) (h1 : loM 6 i ≤ x.toInt) (h2 : x.toInt ≤ hiM 6 i) : IvM g (ux_wI σ 6 i x) := by
  refine ⟨h.1.wI h1 h2, h.2.1, fun t ht => (h.2.2.1 t ht).of rfl (Int.le_refl _) (fun _ _ => rfl) (fun _ _ => rfl), fun j => ?_, h.2.2.2.2⟩
  by_cases e : j = i
  · subst e; rw [ux_wI_eq]; exact h0
  · rw [ux_wI_ne (fun q => e q.2)]; exact h.2.2.2.1 j
theorem IvM.w26 {g : Nat} {σ : S2} {i : Nat} {x : Int32} (h : IvM g σ) (h0 : x.toInt < (σ.1 0 3).toInt) (h1 : loM 26 i ≤ x.toInt) (h2 : x.toInt ≤ hiM 26 i) : IvM g (ux_wI σ 26 i x) := by
  refine ⟨h.1.wI h1 h2, h.2.1, fun t ht => (h.2.2.1 t ht).of rfl (Int.le_refl _) (fun _ _ => rfl) (fun _ _ => rfl), h.2.2.2.1, fun j => ?_, h.2.2.2.2.2⟩
  by_cases e : j = i
  · subst e; rw [ux_wI_eq]; exact Or.inl h0
  · rw [ux_wI_ne (fun q => e q.2)]; exact h.2.2.2.2.1 j
theorem IvM.weak {g : Nat} {σ : S2} (h : IvM g σ) : IvM 1 σ := ⟨h.1, h.2.1, fun t ht => h.2.2.1 t (by omega), h.2.2.2⟩
theorem IvM.full {g h' : Nat} {σ : S2} (h : IvM h' σ) (hf : FaM σ 10) : IvM g σ := ⟨h.1, h.2.1, fun t ht => by
  by_cases e : t = 10
  · subst e; exact hf
  · exact h.2.2.1 t (by omega), h.2.2.2⟩
/-- what the reading of a law leaves as it was -/
def KeM (w σ : S2) : Prop := σ.1 8 = w.1 8 ∧ σ.1 15 = w.1 15 ∧ σ.1 18 = w.1 18 ∧ σ.1 4 = w.1 4 ∧ σ.1 0 3 = w.1 0 3 ∧ σ.1 0 9 = w.1 0 9
theorem KeM.rf (σ : S2) : KeM σ σ := ⟨rfl, rfl, rfl, rfl, rfl, rfl⟩
theorem KeM.tr {a b c : S2} (h : KeM a b) (k : KeM b c) : KeM a c := ⟨k.1.trans h.1, k.2.1.trans h.2.1, k.2.2.1.trans h.2.2.1, k.2.2.2.1.trans h.2.2.2.1, k.2.2.2.2.1.trans h.2.2.2.2.1, k.2.2.2.2.2.trans h.2.2.2.2.2⟩
theorem KeM.co {w σ : S2} {t : Nat} (h : KeM w σ) (k : CoM w t) : CoM σ t := by
  obtain ⟨a, b, _, _, c, _⟩ := h
  unfold CoM
  rw [a, b, c]; exact k
def BiM (σ : S2) (t k : Int32) : Prop := (σ.1 8 (Int32.toNatClampNeg t)).toInt.toNat.testBit (Int32.toNatClampNeg k) = true
def IiM (σ : S2) (t k r : Int32) : Prop := r.toInt ≠ 0 ↔ BiM σ t k
def SsM (σ : S2) (x : Int32) : Prop := 0 ≤ x.toInt ∧ x.toInt < 2 ^ (σ.1 0 3).toInt.toNat
def SxM (σ : S2) (t : Int32) : Prop := SsM σ (σ.1 8 (Int32.toNatClampNeg t))
def PcM (σ : S2) (t x : Int32) : Prop := ∀ k : Nat, (k : Int) < x.toInt → 1 ≤ (σ.1 15 (12 * Int32.toNatClampNeg t + k)).toInt
theorem testBit_lt {x K k : Nat} (h : x < 2 ^ K) (hb : x.testBit k = true) : k < K := by
  rcases Nat.lt_or_ge k K with q | q
  · exact q
  · rw [Nat.testBit_lt_two_pow (Nat.lt_of_lt_of_le h (Nat.pow_le_pow_right (by decide) q))] at hb; exact absurd hb (by decide)
theorem toNat_lt2 {x : Int} {K : Nat} (h0 : 0 ≤ x) (h : x < 2 ^ K) : x.toNat < 2 ^ K := by
  have : ((2 ^ K : Nat) : Int) = 2 ^ K := by push_cast; rfl
  omega
theorem CoM.mk' {σ : S2} {t x : Int32} (h : SxM σ t) (k : PcM σ t x) (hx : (σ.1 0 3).toInt ≤ x.toInt) : CoM σ (Int32.toNatClampNeg t) := by
  refine ⟨h, fun j hj hb => k j ?_⟩
  have := testBit_lt (toNat_lt2 h.1 h.2) hb
  omega
theorem PcM.step {σ : S2} {t x r y : Int32} {i : Nat} (k : PcM σ t x) (hi : i = 12 * Int32.toNatClampNeg t + Int32.toNatClampNeg x) (h0 : 0 ≤ x.toInt) (hr : 1 ≤ r.toInt) (hy : y.toInt = x.toInt + 1) : PcM (ux_wI σ 15 i r) t y := by
  intro j hj
  have := i32_nat h0
  by_cases e : 12 * Int32.toNatClampNeg t + j = i
  · rw [e, ux_wI_eq]; exact hr
  · rw [ux_wI_ne (fun q => e q.2)]; exact k j (by omega)
theorem bit_sar {a x : Int32} (h0 : 0 ≤ a.toInt) (h1 : a.toInt ≤ 4095) (h2 : 0 ≤ x.toInt) (h3 : x.toInt ≤ 11) : ((a >>> (x &&& 31)) &&& 1).toInt = if a.toInt.toNat.testBit (Int32.toNatClampNeg x) then 1 else 0 := by
  have key : ∀ k : Nat, k < 12 → ((a >>> (Int32.ofInt (k : Int) &&& 31)) &&& 1).toInt = if a.toInt.toNat.testBit k then 1 else 0 := by
    intro k hk
    obtain ⟨v, rfl⟩ : ∃ v : BitVec 32, a = Int32.ofBitVec v := ⟨a.toBitVec, rfl⟩
    have hv : v.msb = false ∧ v.toInt = (v.toNat : Int) := bv_nn (x := v) h0
    have e0 : (Int32.ofBitVec v).toInt.toNat = v.toNat := by
      show v.toInt.toNat = _
      rw [hv.2]; rfl
    have e1 : v.toNat.testBit k = v.getLsbD k := rfl
    rw [e0, e1]
    have hk' : k = 0 ∨ k = 1 ∨ k = 2 ∨ k = 3 ∨ k = 4 ∨ k = 5 ∨ k = 6 ∨ k = 7 ∨ k = 8 ∨ k = 9 ∨ k = 10 ∨ k = 11 := by omega
    have fin : ∀ (s : Int32) (w : BitVec 32), s.toBitVec = w → ((Int32.ofBitVec v >>> s) &&& 1).toInt = (BitVec.sshiftRight' v (w.smod 32#32) &&& 1#32).toInt := by
      rintro s _ rfl; rfl
    have one : ∀ w : BitVec 32, (w &&& 1#32).toInt = if w.getLsbD 0 then 1 else 0 := by
      intro w
      cases h : w.getLsbD 0
      · have : w &&& 1#32 = 0#32 := by
          apply BitVec.eq_of_getLsbD_eq; intro i hi
          rw [BitVec.getLsbD_and]
          by_cases e : i = 0
          · subst e; rw [h]; rfl
          · have : (1#32).getLsbD i = false := by rw [BitVec.getLsbD_one]; simp [e]
            rw [this, Bool.and_false, BitVec.getLsbD_zero]
        rw [this]; rfl
      · have : w &&& 1#32 = 1#32 := by
          apply BitVec.eq_of_getLsbD_eq; intro i hi
          rw [BitVec.getLsbD_and]
          by_cases e : i = 0
          · subst e; rw [h]; rfl
          · have : (1#32).getLsbD i = false := by rw [BitVec.getLsbD_one]; simp [e]
            rw [this, Bool.and_false]
        rw [this]; rfl
    have sh : (BitVec.sshiftRight' v (BitVec.ofNat 32 k)).getLsbD 0 = v.getLsbD k := by
      rw [BitVec.sshiftRight_eq', BitVec.getLsbD_sshiftRight]
      have : (BitVec.ofNat 32 k).toNat = k := by rw [BitVec.toNat_ofNat]; exact Nat.mod_eq_of_lt (by omega)
      rw [this]
      have h32 : k < 32 := by omega
      simp [h32]
    rw [fin _ _ rfl, one]
    have : ((Int32.ofInt (k : Int) &&& 31).toBitVec.smod 32#32) = BitVec.ofNat 32 k := by
      rcases hk' with rfl | rfl | rfl | rfl | rfl | rfl | rfl | rfl | rfl | rfl | rfl | rfl <;> decide
    rw [this, sh]
  have e := i32_nat h2
  have hx : x = Int32.ofInt ((Int32.toNatClampNeg x : Nat) : Int) := by
    apply Int32.toInt_inj.mp; rw [Int32.toInt_ofInt]; have hs : (Int32.size : Int) = 4294967296 := rfl
    rw [e]; exact (Int.bmod_eq_of_le (by omega) (by omega)).symm
  have := key (Int32.toNatClampNeg x) (by omega)
  rw [← hx] at this; exact this
theorem SsM.xor {σ : S2} {a b c : Int32} (h : SsM σ a) (hb0 : 0 ≤ b.toInt) (hb1 : b.toInt ≤ 1) (hc : 0 ≤ c.toInt) (hk : c.toInt < (σ.1 0 3).toInt) (h12 : (σ.1 0 3).toInt ≤ 12) : SsM σ (a ^^^ (b <<< (c &&& 31))) := by
  have hs : 0 ≤ (b <<< (c &&& 31)).toInt ∧ (b <<< (c &&& 31)).toInt ≤ 2 ^ ((σ.1 0 3).toInt.toNat) - 1 := by
    have p1 : (1 : Int) ≤ 2 ^ ((σ.1 0 3).toInt.toNat) := by
      have := Nat.one_le_two_pow (n := (σ.1 0 3).toInt.toNat)
      exact_mod_cast this
    rcases i32_bit hb0 hb1 with rfl | rfl
    · have : (0 : Int32) <<< (c &&& 31) = 0 := Int32.toBitVec_inj.mp (by show BitVec.shiftLeft _ _ = _; exact BitVec.zero_shiftLeft _)
      rw [this]
      have : (0 : Int32).toInt = 0 := rfl
      omega
    · rw [i32_shl1 hc (by omega)]
      have hp : 2 ^ (c.toInt.toNat + 1) ≤ 2 ^ (σ.1 0 3).toInt.toNat := Nat.pow_le_pow_right (by decide) (by omega)
      have e1 : (2 : Int) ^ (c.toInt.toNat + 1) ≤ 2 ^ (σ.1 0 3).toInt.toNat := by exact_mod_cast hp
      have e2 : (2 : Int) ^ (c.toInt.toNat + 1) = 2 ^ c.toInt.toNat * 2 := Int.pow_succ _ _
      have e3 : (1 : Int) ≤ 2 ^ c.toInt.toNat := by
        have := Nat.one_le_two_pow (n := c.toInt.toNat)
        exact_mod_cast this
      omega
  have hp : ((2 ^ (σ.1 0 3).toInt.toNat : Nat) : Int) = 2 ^ (σ.1 0 3).toInt.toNat := by push_cast; rfl
  have := h.2
  have := i32_xorB (a := a) (b := b <<< (c &&& 31)) (σ.1 0 3).toInt.toNat _ (by omega) rfl h.1 (by omega) hs.1 (by omega)
  exact ⟨this.1, by omega⟩
theorem IiM.one {σ : S2} {t k v : Int32} (hv : v = σ.1 8 (Int32.toNatClampNeg t)) (a0 : 0 ≤ v.toInt) (a1 : v.toInt ≤ 4095) (k0 : 0 ≤ k.toInt) (k1 : k.toInt ≤ 11) (h : ((v >>> (k &&& 31)) &&& 1).toInt = (1 : Int32).toInt) : IiM σ t k 1 := by
  rw [bit_sar a0 a1 k0 k1] at h
  refine ⟨fun _ => ?_, fun _ => by decide⟩
  unfold BiM
  rw [← hv]
  cases q : v.toInt.toNat.testBit (Int32.toNatClampNeg k)
  · rw [q] at h; exact absurd h (by decide)
  · rfl
theorem IiM.zero {σ : S2} {t k v : Int32} (hv : v = σ.1 8 (Int32.toNatClampNeg t)) (a0 : 0 ≤ v.toInt) (a1 : v.toInt ≤ 4095) (k0 : 0 ≤ k.toInt) (k1 : k.toInt ≤ 11) (h : ((v >>> (k &&& 31)) &&& 1).toInt ≠ (1 : Int32).toInt) : IiM σ t k 0 := by
  rw [bit_sar a0 a1 k0 k1] at h
  refine ⟨fun q => absurd (rfl : (0 : Int32).toInt = 0) q, fun hb => ?_⟩
  unfold BiM at hb
  rw [← hv] at hb
  rw [hb] at h; exact absurd (rfl : (1 : Int) = (1 : Int32).toInt) h
theorem keep_pos {a x : Int} (h0 : 0 < x) (h : x < 2 ^ a.toNat) : 1 ≤ a := by
  by_cases e : 1 ≤ a
  · exact e
  · have : a.toNat = 0 := by omega
    rw [this] at h
    have : (2 : Int) ^ 0 = 1 := rfl
    omega
theorem co_cnt {g : Nat} {σ : S2} {x1 x4 r : Int32} (hI : IvM g σ) (h1 : x1.toInt < (σ.1 0 9).toInt) (h0 : 0 ≤ x1.toInt) (hx : x1.toInt ≤ 10) (h2 : 0 ≤ x4.toInt) (h3 : x4.toInt ≤ 11) (h : IiM σ x1 x4 r) (hr : r.toInt ≠ 0) : 1 ≤ (σ.1 15 (Int32.toNatClampNeg ((12 * x1) + x4))).toInt := by
  have e1 := i32_nat h0
  have e2 := i32_nat h2
  have e12 : (12 : Int32).toInt = 12 := rfl
  have em : (12 * x1).toInt = 12 * x1.toInt := i32_mulL e12 (by omega) (by omega)
  have ea : ((12 * x1) + x4).toInt = 12 * x1.toInt + x4.toInt := by rw [i32_add (by omega) (by omega), em]
  have en := i32_nat (i := (12 * x1) + x4) (by omega)
  have e : Int32.toNatClampNeg ((12 * x1) + x4) = 12 * Int32.toNatClampNeg x1 + Int32.toNatClampNeg x4 := by omega
  rw [e]
  exact (hI.2.2.1 (Int32.toNatClampNeg x1) (by omega)).1.2 _ (by omega) (h.mp hr)
theorem ss_of {g : Nat} {σ : S2} {x1 : Int32} (hI : IvM g σ) (h0 : 0 ≤ x1.toInt) (h1 : x1.toInt < (σ.1 0 9).toInt) : SsM σ (σ.1 8 (Int32.toNatClampNeg x1)) := by
  have e1 := i32_nat h0
  exact (hI.2.2.1 (Int32.toNatClampNeg x1) (by omega)).1.1
theorem ok_somev {S : Type} {Q : Int32 × S → Prop} {a : Int32} {σ : S} (h : ∀ v : Int32, v.toInt = a.toInt → Q (v, σ)) : Ok Q (some (a, σ)) := ok_some (h a rfl)
theorem sub100 {r : Int32} (h0 : 0 ≤ r.toInt) (h1 : r.toInt ≤ 80) : (-180) ≤ ((-100) - r).toInt ∧ ((-100) - r).toInt ≤ 9 := by
  have e : ((-100 : Int32)).toInt = -100 := by decide
  generalize (-100 : Int32) = q at e ⊢
  rw [i32_sub (by omega) (by omega)]; omega

