/-! what an answer is, if there is one: partial rules over the decompiled functions -/
def Pt {α : Type} (Q : α → Prop) (o : Option α) : Prop := ∀ z, o = some z → Q z
section PT
variable {α β : Type} {Q : β → Prop}
theorem pt_none : Pt Q none := fun _ h => by cases h
theorem pt_some {z : β} (h : Q z) : Pt Q (some z) := fun _ e => by cases e; exact h
theorem pt_mono {P : β → Prop} {o : Option β} (h : Pt P o) (k : ∀ z, P z → Q z) : Pt Q o := fun z e => k z (h z e)
theorem pt_and {P : β → Prop} {o : Option β} (h : Pt P o) (h2 : Pt Q o) : Pt (fun z => P z ∧ Q z) o := fun z e => ⟨h z e, h2 z e⟩
theorem pt_if {c : Prop} {d : Decidable c} {A B : Option β} (h1 : c → Pt Q A) (h2 : ¬ c → Pt Q B) : Pt Q (@ite _ c d A B) := by
  by_cases h : c
  · rw [if_pos h]; exact h1 h
  · rw [if_neg h]; exact h2 h
theorem pt_nm {a : α} {K : α → Option β} (h : ∀ v, v = a → Pt Q (K v)) : Pt Q (nm a K) := h a rfl
theorem pt_ck {n : Nat} {i : Int32} {K : Option β} (h : 0 ≤ i.toInt → i.toInt < (n : Int) → (i.toNatClampNeg : Int) = i.toInt → Pt Q K) : Pt Q (ck n i K) := by
  unfold ck
  by_cases c : i < 0 ∨ n ≤ i.toNatClampNeg
  · rw [if_pos c]; exact pt_none
  · rw [if_neg c]
    have z0 : (0 : Int32).toInt = 0 := rfl
    have h0 : 0 ≤ i.toInt := by
      by_cases q : i.toInt < 0
      · exact absurd (Or.inl (Int32.lt_iff_toInt_lt.mpr (by rw [z0]; exact q))) c
      · omega
    have e := i32_nat h0
    have h1 : ¬ n ≤ i.toNatClampNeg := fun q => c (Or.inr q)
    exact h h0 (by omega) e
theorem pt_dz {y : Int32} {K : Option β} (h : y.toInt ≠ 0 → Pt Q K) : Pt Q (dz y K) := pt_if (fun _ => pt_none) (fun c => h (fun q => c (Int32.toInt_inj.mp q)))
theorem pt_zb {v : Int32} {K : Option β} (h : Pt Q K) : Pt Q (zb v K) := pt_if (fun _ => h) (fun _ => pt_none)
theorem pt_zf {v : Int32} {K : Option β} (h : Pt Q K) : Pt Q (zf v K) := pt_if (fun _ => h) (fun _ => pt_none)
theorem pt_cpL {n0 n1 : Nat} {f : Nat → Int64} {a b n : Int32} {K : Option β} (h : cpOk n0 n1 a b n → Pt Q K) : Pt Q (cpL n0 n1 f a b n K) := pt_if (fun c => h c.1) (fun _ => pt_none)
theorem pt_cp {ty : FieldType} {n0 n1 : Nat} {f : Nat → Int32} {a b n : Int32} {K : Option β} (h : cpOk n0 n1 a b n → Pt Q K) : Pt Q (cp ty n0 n1 f a b n K) := pt_if (fun c => h c.1) (fun _ => pt_none)
theorem pt_bi {P : α → Prop} {o : Option α} {K : α → Option β} (h : Pt P o) (k : ∀ r, P r → Pt Q (K r)) : Pt Q (bi o K) := by
  cases o with
  | none => exact pt_none
  | some r => exact k r (h r rfl)
theorem pt_bs {P : α × S2 → Prop} {o : Option (α × S2)} {K : α → S2 → Option β} (h : Pt P o) (k : ∀ r σ, P (r, σ) → Pt Q (K r σ)) : Pt Q (bs o K) := by
  cases o with
  | none => exact pt_none
  | some r => exact k r.1 r.2 (h r rfl)
theorem pt_le {a b : Int32} {A B : Option β} (h1 : a.toInt ≤ b.toInt → Pt Q A) (h2 : b.toInt < a.toInt → Pt Q B) : Pt Q (if a ≤ b then A else B) := pt_if (fun c => h1 (Int32.le_iff_toInt_le.mp c)) (fun c => h2 (Int.not_le.mp (fun q => c (Int32.le_iff_toInt_le.mpr q))))
theorem pt_lt {a b : Int32} {A B : Option β} (h1 : a.toInt < b.toInt → Pt Q A) (h2 : b.toInt ≤ a.toInt → Pt Q B) : Pt Q (if a < b then A else B) := pt_if (fun c => h1 (Int32.lt_iff_toInt_lt.mp c)) (fun c => h2 (Int.not_lt.mp (fun q => c (Int32.lt_iff_toInt_lt.mpr q))))
theorem pt_eq {a b : Int32} {A B : Option β} (h1 : a.toInt = b.toInt → Pt Q A) (h2 : a.toInt ≠ b.toInt → Pt Q B) : Pt Q (if a = b then A else B) := pt_if (fun c => h1 (by rw [c])) (fun c => h2 (fun q => c (Int32.toInt_inj.mp q)))
theorem pt_fr {g : Nat → Nat → Nat} {m : Nat} {σ0 : S2} {o : Option (α × S2)} (h : FrP g m σ0 o) : Pt (fun z => Fr g m σ0 z.2) o := h
end PT
theorem Fr.at {g : Nat → Nat → Nat} {m : Nat} {σ σ' : S2} (h : Fr g m σ σ') (k i n : Nat) (e : g k i = n) (hn : m.testBit n = false) : σ'.1 k i = σ.1 k i := (h k i (by rw [e]; exact hn)).1
theorem i_0 : (0 : Int32).toInt = 0 := rfl
theorem i_1 : (1 : Int32).toInt = 1 := rfl
theorem i_2 : (2 : Int32).toInt = 2 := rfl
theorem i_4 : (4 : Int32).toInt = 4 := rfl
theorem i_5 : (5 : Int32).toInt = 5 := rfl
theorem i_6 : (6 : Int32).toInt = 6 := rfl
theorem i_8 : (8 : Int32).toInt = 8 := rfl
theorem i_12 : (12 : Int32).toInt = 12 := rfl
theorem i_m1 : ((-1) : Int32).toInt = -1 := by decide
theorem i_m3 : ((-3) : Int32).toInt = -3 := by decide
theorem i_m11 : ((-11) : Int32).toInt = -11 := by decide
theorem i_m12 : ((-12) : Int32).toInt = -12 := by decide
theorem i_m13 : ((-13) : Int32).toInt = -13 := by decide
theorem i_m14 : ((-14) : Int32).toInt = -14 := by decide
/-! the small questions of both sides -/
theorem q_has {τ : Nat} {σ : S2} {a : Int32} : Pt (fun r => (r.toInt = 0 ∧ ¬ (0 ≤ a.toInt ∧ a.toInt < (σ.1 7 5).toInt)) ∨ (r.toInt = 1 ∧ 0 ≤ a.toInt ∧ a.toInt < (σ.1 7 5).toInt)) (fX2_has τ σ a) := by
  have z0 := i_0
  have z1 := i_1
  unfold fX2_has fX2_has_0
  refine pt_lt (fun h => pt_some ?_) (fun h => pt_le (fun h2 => pt_some ?_) (fun h2 => pt_some ?_))
  · rw [z0]; omega
  · rw [z0]; omega
  · rw [z1]; omega
theorem q_str {τ : Nat} {σ : S2} {a : Int32} : Pt (fun r => (r.toInt = 0 ∧ ¬ (1 ≤ a.toInt ∧ a.toInt ≤ 8)) ∨ (r.toInt = 1 ∧ 1 ≤ a.toInt ∧ a.toInt ≤ 8)) (fX11_isStrength τ σ a) := by
  have z0 := i_0
  have z1 := i_1
  have z8 := i_8
  unfold fX11_isStrength fX11_isStrength_0
  refine pt_lt (fun h => pt_some ?_) (fun h => pt_lt (fun h2 => pt_some ?_) (fun h2 => pt_some ?_))
  · rw [z0]; omega
  · rw [z0]; omega
  · rw [z1]; omega
theorem q_kind {τ : Nat} {σ : S2} {a : Int32} : Pt (fun r => (r.toInt = 0 ∧ ¬ (0 ≤ a.toInt ∧ a.toInt ≤ 6)) ∨ (r.toInt = 1 ∧ 0 ≤ a.toInt ∧ a.toInt ≤ 6)) (fX11_isKind τ σ a) := by
  have z0 := i_0
  have z1 := i_1
  have z6 := i_6
  unfold fX11_isKind fX11_isKind_0
  refine pt_lt (fun h => pt_some ?_) (fun h => pt_lt (fun h2 => pt_some ?_) (fun h2 => pt_some ?_))
  · rw [z0]; omega
  · rw [z0]; omega
  · rw [z1]; omega
theorem q_shelf {τ : Nat} {σ : S2} {a : Int32} : Pt (fun r => (r.toInt = 0 ∧ ¬ (0 ≤ a.toInt ∧ a.toInt ≤ 5)) ∨ (r.toInt = 1 ∧ 0 ≤ a.toInt ∧ a.toInt ≤ 5)) (fX11_isShelf τ σ a) := by
  have z0 := i_0
  have z1 := i_1
  have z6 := i_6
  unfold fX11_isShelf fX11_isShelf_0
  refine pt_lt (fun h => pt_some ?_) (fun h => pt_le (fun h2 => pt_some ?_) (fun h2 => pt_some ?_))
  · rw [z0]; omega
  · rw [z0]; omega
  · rw [z1]; omega
theorem q_in {σ : S2} {a b c : Int32} : Pt (fun r => (r.toInt = 0 ∧ ¬ (b.toInt ≤ a.toInt ∧ a.toInt ≤ c.toInt)) ∨ (r.toInt = 1 ∧ b.toInt ≤ a.toInt ∧ a.toInt ≤ c.toInt)) (fX12_in σ a b c) := by
  have z0 := i_0
  have z1 := i_1
  unfold fX12_in fX12_in_0
  refine pt_lt (fun h => pt_some ?_) (fun h => pt_lt (fun h2 => pt_some ?_) (fun h2 => pt_some ?_))
  · rw [z0]; omega
  · rw [z0]; omega
  · rw [z1]; omega
theorem q_shelfM {σ : S2} {a : Int32} : Pt (fun r => (r.toInt = 0 ∧ ¬ (0 ≤ a.toInt ∧ a.toInt ≤ 5)) ∨ (r.toInt = 1 ∧ 0 ≤ a.toInt ∧ a.toInt ≤ 5)) (fX12_isShelf σ a) := by
  have z0 := i_0
  have z5 := i_5
  unfold fX12_isShelf fX12_isShelf_0
  refine pt_bi q_in (fun r h => pt_zb (pt_some ?_))
  omega
theorem q_keeperB {ρ : S2} {a : Int32} (b : 0 ≤ (ρ.1 0 3).toInt ∧ (ρ.1 0 3).toInt ≤ 12) : Pt (fun r => (r.toInt = 0 ∧ ¬ (0 ≤ a.toInt ∧ a.toInt < (ρ.1 0 3).toInt)) ∨ (r.toInt = 1 ∧ 0 ≤ a.toInt ∧ a.toInt < (ρ.1 0 3).toInt)) (fX12_isKeeper ρ a) := by
  have z0 := i_0
  have z1 := i_1
  have e : ((ρ.1 0 3) - 1).toInt = (ρ.1 0 3).toInt - 1 := by rw [i32_sub (by omega) (by omega)]; omega
  unfold fX12_isKeeper fX12_isKeeper_0
  refine pt_bi q_in (fun r h => pt_zb (pt_some ?_))
  omega
theorem q_keeperM {ρ : S2} {a : Int32} (hM : IvM 0 ρ) : Pt (fun r => (r.toInt = 0 ∧ ¬ (0 ≤ a.toInt ∧ a.toInt < (ρ.1 0 3).toInt)) ∨ (r.toInt = 1 ∧ 0 ≤ a.toInt ∧ a.toInt < (ρ.1 0 3).toInt)) (fX12_isKeeper ρ a) := q_keeperB (hM.1 0 3)
