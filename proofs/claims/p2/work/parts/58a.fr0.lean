/-! frames: what a function leaves as it was, by groups of places -/
def Fr (g : Nat → Nat → Nat) (m : Nat) (σ σ' : S2) : Prop := ∀ k i, m.testBit (g k i) = false → σ'.1 k i = σ.1 k i ∧ σ'.2 k i = σ.2 k i
def FrP {α : Type} (g : Nat → Nat → Nat) (m : Nat) (σ : S2) (o : Option (α × S2)) : Prop := ∀ z, o = some z → Fr g m σ z.2
theorem tb_of {a m g : Nat} (hm : a ||| m = m) (h : a.testBit g = true) : m.testBit g = true := by
  rw [← hm, Nat.testBit_or, h]; rfl
theorem tb_sub {b a m : Nat} (h : b ||| a = a) (hm : a ||| m = m) : b ||| m = m := by rw [← hm, ← Nat.or_assoc, h]
theorem Fr.rf {g : Nat → Nat → Nat} {m : Nat} (σ : S2) : Fr g m σ σ := fun _ _ _ => ⟨rfl, rfl⟩
theorem Fr.trans {g : Nat → Nat → Nat} {m : Nat} {a b c : S2} (h : Fr g m a b) (h2 : Fr g m b c) : Fr g m a c := fun k i e => ⟨(h2 k i e).1.trans (h k i e).1, (h2 k i e).2.trans (h k i e).2⟩
theorem Fr.mono {g : Nat → Nat → Nat} {a m : Nat} {x y : S2} (hm : a ||| m = m) (h : Fr g a x y) : Fr g m x y := fun k i e => by
  refine h k i ?_
  by_cases q : a.testBit (g k i) = true
  · rw [tb_of hm q] at e; exact absurd e (by decide)
  · simpa using q
theorem Fr.wI {g : Nat → Nat → Nat} {m : Nat} {σ0 σ : S2} (h : Fr g m σ0 σ) {k i : Nat} {x : Int32} (hg : m.testBit (g k i) = true) : Fr g m σ0 (ux_wI σ k i x) := fun k' i' e => by
  refine ⟨?_, (h k' i' e).2⟩
  show (if k' = k then upd (σ.1 k) i x else σ.1 k') i' = _
  by_cases hk : k' = k
  · subst hk
    rw [if_pos rfl]
    by_cases hi : i' = i
    · subst hi; rw [hg] at e; exact absurd e (by decide)
    · rw [show upd (σ.1 k') i x i' = σ.1 k' i' from if_neg hi]; exact (h k' i' e).1
  · rw [if_neg hk]; exact (h k' i' e).1
theorem Fr.wL {g : Nat → Nat → Nat} {m : Nat} {σ0 σ : S2} (h : Fr g m σ0 σ) {k i : Nat} {x : Int64} (hg : m.testBit (g k i) = true) : Fr g m σ0 (ux_wL σ k i x) := fun k' i' e => by
  refine ⟨(h k' i' e).1, ?_⟩
  show (if k' = k then vp_updL (σ.2 k) i x else σ.2 k') i' = _
  by_cases hk : k' = k
  · subst hk
    rw [if_pos rfl]
    by_cases hi : i' = i
    · subst hi; rw [hg] at e; exact absurd e (by decide)
    · rw [show vp_updL (σ.2 k') i x i' = σ.2 k' i' from if_neg hi]; exact (h k' i' e).2
  · rw [if_neg hk]; exact (h k' i' e).2
theorem Fr.I {g : Nat → Nat → Nat} {m : Nat} {σ0 σ : S2} (h : Fr g m σ0 σ) {k : Nat} {f : Nat → Int32} (hg : ∀ i, m.testBit (g k i) = true) : Fr g m σ0 (ux_I σ k f) := fun k' i' e => by
  refine ⟨?_, (h k' i' e).2⟩
  show (if k' = k then f else σ.1 k') i' = _
  by_cases hk : k' = k
  · subst hk; rw [hg] at e; exact absurd e (by decide)
  · rw [if_neg hk]; exact (h k' i' e).1
theorem Fr.L {g : Nat → Nat → Nat} {m : Nat} {σ0 σ : S2} (h : Fr g m σ0 σ) {k : Nat} {f : Nat → Int64} (hg : ∀ i, m.testBit (g k i) = true) : Fr g m σ0 (ux_L σ k f) := fun k' i' e => by
  refine ⟨(h k' i' e).1, ?_⟩
  show (if k' = k then f else σ.2 k') i' = _
  by_cases hk : k' = k
  · subst hk; rw [hg] at e; exact absurd e (by decide)
  · rw [if_neg hk]; exact (h k' i' e).2
section FRP
variable {α β : Type} {g : Nat → Nat → Nat} {m : Nat} {σ0 : S2}
theorem frp_n : FrP (α := α) g m σ0 none := fun _ h => by cases h
theorem frp_s {x : α} {σ : S2} (h : Fr g m σ0 σ) : FrP g m σ0 (some (x, σ)) := fun z e => by cases e; exact h
theorem frp_if {c : Prop} {q : Decidable c} {a b : Option (α × S2)} (ha : FrP g m σ0 a) (hb : FrP g m σ0 b) : FrP g m σ0 (@ite _ c q a b) := by
  by_cases h : c
  · rw [if_pos h]; exact ha
  · rw [if_neg h]; exact hb
theorem frp_nm {x : β} {K : β → Option (α × S2)} (h : ∀ v, FrP g m σ0 (K v)) : FrP g m σ0 (nm x K) := h x
theorem frp_w {x : S2} {K : S2 → Option (α × S2)} (hx : Fr g m σ0 x) (h : ∀ σ, Fr g m σ0 σ → FrP g m σ0 (K σ)) : FrP g m σ0 (nm x K) := h x hx
theorem frp_ck {n : Nat} {i : Int32} {K : Option (α × S2)} (h : Int32.toNatClampNeg i < n → FrP g m σ0 K) : FrP g m σ0 (ck n i K) := by
  unfold ck
  by_cases c : i < 0 ∨ n ≤ i.toNatClampNeg
  · rw [if_pos c]; exact frp_n
  · rw [if_neg c]; exact h (Nat.lt_of_not_le (fun q => c (Or.inr q)))
theorem frp_dz {y : Int32} {K : Option (α × S2)} (h : FrP g m σ0 K) : FrP g m σ0 (dz y K) := frp_if frp_n h
theorem frp_zb {y : Int32} {K : Option (α × S2)} (h : FrP g m σ0 K) : FrP g m σ0 (zb y K) := frp_if h frp_n
theorem frp_zf {y : Int32} {K : Option (α × S2)} (h : FrP g m σ0 K) : FrP g m σ0 (zf y K) := frp_if h frp_n
theorem frp_cp {ty : FieldType} {n0 n1 : Nat} {f : Nat → Int32} {a b n : Int32} {K : Option (α × S2)} (h : FrP g m σ0 K) : FrP g m σ0 (cp ty n0 n1 f a b n K) := frp_if h frp_n
theorem frp_cpL {n0 n1 : Nat} {f : Nat → Int64} {a b n : Int32} {K : Option (α × S2)} (h : FrP g m σ0 K) : FrP g m σ0 (cpL n0 n1 f a b n K) := frp_if h frp_n
theorem frp_bi {o : Option β} {K : β → Option (α × S2)} (h : ∀ r, FrP g m σ0 (K r)) : FrP g m σ0 (bi o K) := by
  cases o with
  | none => exact frp_n
  | some r => exact h r
theorem frp_bs {o : Option (β × S2)} {K : β → S2 → Option (α × S2)} (ho : FrP g m σ0 o) (h : ∀ r σ, Fr g m σ0 σ → FrP g m σ0 (K r σ)) : FrP g m σ0 (bs o K) := by
  cases o with
  | none => exact frp_n
  | some z => exact h z.1 z.2 (ho z rfl)
theorem frp_bt {o : Option (Option Nat)} {K0 : Option (α × S2)} {K1 : Nat → Option (α × S2)} (h0 : FrP g m σ0 K0) (h1 : ∀ b, FrP g m σ0 (K1 b)) : FrP g m σ0 (bt o K0 K1) := by
  unfold bt
  split
  · exact frp_n
  · exact h0
  · exact h1 _
end FRP
def gM0 (i : Nat) : Nat := match i with | 0 => 2 | 3 => 3 | 9 => 24 | 22 => 1 | 29 => 15 | 30 => 16 | 32 => 17 | 34 => 18 | 36 => 19 | 38 => 20 | _ => 0
def gM (k i : Nat) : Nat := match k with | 0 => gM0 i | 1 => 2 | 2 => 2 | 3 => 5 | 4 => 6 | 5 => 4 | 6 => 7 | 7 => 8 | 8 => 9 | 9 => 9 | 10 => 9 | 11 => 9 | 12 => 9 | 13 => 9 | 14 => 9 | 15 => 9 | 16 => 9 | 17 => 9 | 18 => 9 | 19 => 1 | 20 => 11 | 21 => 12 | 22 => 12 | 23 => 13 | 24 => 13 | 25 => 14 | 26 => 16 | 27 => 17 | 28 => 18 | 29 => 20 | 30 => 21 | 31 => 21 | 32 => 21 | 33 => 22 | _ => 0
def gF (k i : Nat) : Nat := match k with | 0 => (match i with | 6 => 24 | _ => 0) | 1 => (match i with | 1 => 1 | _ => 0) | 2 => 1 | 3 => (match i with | 3 => 2 | _ => 0) | 5 => 2 | 7 => (match i with | 5 => 3 | _ => 0) | 8 => 4 | 9 => 5 | 10 => 6 | 11 => 7 | 12 => 8 | 18 => (match i with | 8 => 15 | _ => 0) | 24 => 14 | 27 => (match i with | 1 => 16 | 3 => 17 | _ => 0) | 28 => 16 | 29 => 17 | 32 => (match i with | 1 => 18 | 2 => 19 | _ => 0) | 33 => 18 | 35 => (match i with | 1 => 20 | _ => 0) | 36 => 20 | 38 => 21 | 39 => 21 | 40 => 21 | _ => 0
def gB (j i g : Nat) : Nat := match j with | 0 => if i = 7 then 10 else g | 2 => 10 | _ => g
def gT (b : Nat) : Nat := if b = 0 then 23 else 9
def gC (k i : Nat) : Nat := if k < 44 then gF k i else if k < 84 then 2 else if k < 96 then 11 else if k < 108 then 12 else if k < 120 then 12 else if k < 132 then 13 else if k < 144 then 13 else if k < 176 then 0 else if k < 182 then 22 else gB ((k - 182) % 6) i (if k < 188 then 23 else 9)
theorem tr_44 {m n i : Nat} (hm : m.testBit 2 = true) (h : n < 40) : m.testBit (gC (44 + n) i) = true := by
  unfold gC
  rw [if_neg (by omega), if_pos (by omega)]; exact hm
theorem tr_84 {m n i : Nat} (hm : m.testBit 11 = true) (h : n < 12) : m.testBit (gC (84 + n) i) = true := by
  unfold gC
  rw [if_neg (by omega), if_neg (by omega), if_pos (by omega)]; exact hm
theorem tr_96 {m n i : Nat} (hm : m.testBit 12 = true) (h : n < 12) : m.testBit (gC (96 + n) i) = true := by
  unfold gC
  rw [if_neg (by omega), if_neg (by omega), if_neg (by omega), if_pos (by omega)]; exact hm
theorem tr_108 {m n i : Nat} (hm : m.testBit 12 = true) (h : n < 12) : m.testBit (gC (108 + n) i) = true := by
  unfold gC
  rw [if_neg (by omega), if_neg (by omega), if_neg (by omega), if_neg (by omega), if_pos (by omega)]; exact hm
theorem tr_120 {m n i : Nat} (hm : m.testBit 13 = true) (h : n < 12) : m.testBit (gC (120 + n) i) = true := by
  unfold gC
  rw [if_neg (by omega), if_neg (by omega), if_neg (by omega), if_neg (by omega), if_neg (by omega), if_pos (by omega)]; exact hm
theorem tr_132 {m n i : Nat} (hm : m.testBit 13 = true) (h : n < 12) : m.testBit (gC (132 + n) i) = true := by
  unfold gC
  rw [if_neg (by omega), if_neg (by omega), if_neg (by omega), if_neg (by omega), if_neg (by omega), if_neg (by omega), if_pos (by omega)]; exact hm
theorem tr_144 {m n i : Nat} (hm : m.testBit 0 = true) (h : n < 32) : m.testBit (gC (144 + n) i) = true := by
  unfold gC
  rw [if_neg (by omega), if_neg (by omega), if_neg (by omega), if_neg (by omega), if_neg (by omega), if_neg (by omega), if_neg (by omega), if_pos (by omega)]; exact hm
theorem tr_176 {m n i : Nat} (hm : m.testBit 22 = true) (h : n < 6) : m.testBit (gC (176 + n) i) = true := by
  unfold gC
  rw [if_neg (by omega), if_neg (by omega), if_neg (by omega), if_neg (by omega), if_neg (by omega), if_neg (by omega), if_neg (by omega), if_neg (by omega), if_pos (by omega)]; exact hm
theorem tt_0 {m b i : Nat} (hm : m.testBit (gT b) = true) (hi : i ≠ 7) : m.testBit (gC (182 + 6 * b) i) = true := by
  unfold gC
  rw [if_neg (by omega), if_neg (by omega), if_neg (by omega), if_neg (by omega), if_neg (by omega), if_neg (by omega), if_neg (by omega), if_neg (by omega), if_neg (by omega), show (182 + 6 * b - 182) % 6 = 0 by omega]
  have e : (if 182 + 6 * b < 188 then 23 else 9) = gT b := by
    unfold gT
    by_cases h : b = 0
    · rw [if_pos (by omega), if_pos h]
    · rw [if_neg (by omega), if_neg h]
  rw [e]
  rw [show gB 0 i (gT b) = gT b from if_neg hi]; exact hm
theorem to_0 {m b : Nat} (hm : m.testBit 10 = true) : m.testBit (gC (182 + 6 * b) 7) = true := by
  unfold gC
  rw [if_neg (by omega), if_neg (by omega), if_neg (by omega), if_neg (by omega), if_neg (by omega), if_neg (by omega), if_neg (by omega), if_neg (by omega), if_neg (by omega), show (182 + 6 * b - 182) % 6 = 0 by omega]
  exact hm
theorem tt_1 {m b i : Nat} (hm : m.testBit (gT b) = true) : m.testBit (gC (182 + 6 * b + 1) i) = true := by
  unfold gC
  rw [if_neg (by omega), if_neg (by omega), if_neg (by omega), if_neg (by omega), if_neg (by omega), if_neg (by omega), if_neg (by omega), if_neg (by omega), if_neg (by omega), show (182 + 6 * b + 1 - 182) % 6 = 1 by omega]
  have e : (if 182 + 6 * b + 1 < 188 then 23 else 9) = gT b := by
    unfold gT
    by_cases h : b = 0
    · rw [if_pos (by omega), if_pos h]
    · rw [if_neg (by omega), if_neg h]
  rw [e]
  exact hm
theorem to_2 {m b i : Nat} (hm : m.testBit 10 = true) : m.testBit (gC (182 + 6 * b + 2) i) = true := by
  unfold gC
  rw [if_neg (by omega), if_neg (by omega), if_neg (by omega), if_neg (by omega), if_neg (by omega), if_neg (by omega), if_neg (by omega), if_neg (by omega), if_neg (by omega), show (182 + 6 * b + 2 - 182) % 6 = 2 by omega]
  exact hm
theorem tt_3 {m b i : Nat} (hm : m.testBit (gT b) = true) : m.testBit (gC (182 + 6 * b + 3) i) = true := by
  unfold gC
  rw [if_neg (by omega), if_neg (by omega), if_neg (by omega), if_neg (by omega), if_neg (by omega), if_neg (by omega), if_neg (by omega), if_neg (by omega), if_neg (by omega), show (182 + 6 * b + 3 - 182) % 6 = 3 by omega]
  have e : (if 182 + 6 * b + 3 < 188 then 23 else 9) = gT b := by
    unfold gT
    by_cases h : b = 0
    · rw [if_pos (by omega), if_pos h]
    · rw [if_neg (by omega), if_neg h]
  rw [e]
  exact hm
theorem tt_4 {m b i : Nat} (hm : m.testBit (gT b) = true) : m.testBit (gC (182 + 6 * b + 4) i) = true := by
  unfold gC
  rw [if_neg (by omega), if_neg (by omega), if_neg (by omega), if_neg (by omega), if_neg (by omega), if_neg (by omega), if_neg (by omega), if_neg (by omega), if_neg (by omega), show (182 + 6 * b + 4 - 182) % 6 = 4 by omega]
  have e : (if 182 + 6 * b + 4 < 188 then 23 else 9) = gT b := by
    unfold gT
    by_cases h : b = 0
    · rw [if_pos (by omega), if_pos h]
    · rw [if_neg (by omega), if_neg h]
  rw [e]
  exact hm
theorem tt_5 {m b i : Nat} (hm : m.testBit (gT b) = true) : m.testBit (gC (182 + 6 * b + 5) i) = true := by
  unfold gC
  rw [if_neg (by omega), if_neg (by omega), if_neg (by omega), if_neg (by omega), if_neg (by omega), if_neg (by omega), if_neg (by omega), if_neg (by omega), if_neg (by omega), show (182 + 6 * b + 5 - 182) % 6 = 5 by omega]
  have e : (if 182 + 6 * b + 5 < 188 then 23 else 9) = gT b := by
    unfold gT
    by_cases h : b = 0
    · rw [if_pos (by omega), if_pos h]
    · rw [if_neg (by omega), if_neg h]
  rw [e]
  exact hm
theorem gT_ok {m : Nat} (h0 : m.testBit 23 = true) (h9 : m.testBit 9 = true) (b : Nat) : m.testBit (gT b) = true := by
  unfold gT
  by_cases h : b = 0
  · rw [if_pos h]; exact h0
  · rw [if_neg h]; exact h9
