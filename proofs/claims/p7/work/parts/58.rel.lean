section
/-! frames: what a function leaves as it was, by groups of places -/
noncomputable def Fr (g : Nat → Nat → Nat) (m : Nat) (σ σ' : S2) : Prop := ∀ k i, m.testBit (g k i) = false → σ'.1 k i = σ.1 k i ∧ σ'.2 k i = σ.2 k i
noncomputable def FrP {α : Type} (g : Nat → Nat → Nat) (m : Nat) (σ : S2) (o : Option (α × S2)) : Prop := ∀ z, o = some z → Fr g m σ z.2
theorem tb_of {a m g : Nat} (hm : a ||| m = m) (h : a.testBit g = true) : m.testBit g = true := by
  rw [← hm, Nat.testBit_or, h]; rfl
theorem tb_sub {b a m : Nat} (h : b ||| a = a) (hm : a ||| m = m) : b ||| m = m := by rw [← hm, ← Nat.or_assoc, h]
theorem Fr.rf {g : Nat → Nat → Nat} {m : Nat} (σ : S2) : Fr g m σ σ := fun _ _ _ => ⟨rfl, rfl⟩
theorem Fr.trans {g : Nat → Nat → Nat} {m : Nat} {a b c : S2} (h : Fr g m a b) (h2 : Fr g m b c) : Fr g m a c := fun k i e => ⟨(h2 k i e).1.trans (h k i e).1, (h2 k i e).2.trans (h k i e).2⟩
theorem Fr.mono {g : Nat → Nat → Nat} {a m : Nat} {x y : S2} (hm : a ||| m = m) (h : Fr g a x y) : Fr g m x y := fun k i e => by
  refine h k i ?_
  by_cases q : a.testBit (g k i) = true
  · rw [tb_of hm q] at e; exact absurd e (by decide)
  · simpa using q
theorem Fr.wI {g : Nat → Nat → Nat} {m : Nat} {σ0 σ : S2} (h : Fr g m σ0 σ) {k i : Nat} {x : Int32} (hg : m.testBit (g k i) = true) : Fr g m σ0 (ux_wI σ k i x) := fun k' i' e => by
  refine ⟨?_, (h k' i' e).2⟩
  show (if k' = k then upd (σ.1 k) i x else σ.1 k') i' = _
  by_cases hk : k' = k
  · subst hk
    rw [if_pos rfl]
    by_cases hi : i' = i
    · subst hi; rw [hg] at e; exact absurd e (by decide)
    · rw [show upd (σ.1 k') i x i' = σ.1 k' i' from if_neg hi]; exact (h k' i' e).1
  · rw [if_neg hk]; exact (h k' i' e).1
theorem Fr.wL {g : Nat → Nat → Nat} {m : Nat} {σ0 σ : S2} (h : Fr g m σ0 σ) {k i : Nat} {x : Int64} (hg : m.testBit (g k i) = true) : Fr g m σ0 (ux_wL σ k i x) := fun k' i' e => by
  refine ⟨(h k' i' e).1, ?_⟩
  show (if k' = k then vp_updL (σ.2 k) i x else σ.2 k') i' = _
  by_cases hk : k' = k
  · subst hk
    rw [if_pos rfl]
    by_cases hi : i' = i
    · subst hi; rw [hg] at e; exact absurd e (by decide)
    · rw [show vp_updL (σ.2 k') i x i' = σ.2 k' i' from if_neg hi]; exact (h k' i' e).2
  · rw [if_neg hk]; exact (h k' i' e).2
theorem Fr.I {g : Nat → Nat → Nat} {m : Nat} {σ0 σ : S2} (h : Fr g m σ0 σ) {k : Nat} {f : Nat → Int32} (hg : ∀ i, m.testBit (g k i) = true) : Fr g m σ0 (ux_I σ k f) := fun k' i' e => by
  refine ⟨?_, (h k' i' e).2⟩
  show (if k' = k then f else σ.1 k') i' = _
  by_cases hk : k' = k
  · subst hk; rw [hg] at e; exact absurd e (by decide)
  · rw [if_neg hk]; exact (h k' i' e).1
theorem Fr.L {g : Nat → Nat → Nat} {m : Nat} {σ0 σ : S2} (h : Fr g m σ0 σ) {k : Nat} {f : Nat → Int64} (hg : ∀ i, m.testBit (g k i) = true) : Fr g m σ0 (ux_L σ k f) := fun k' i' e => by
  refine ⟨(h k' i' e).1, ?_⟩
  show (if k' = k then f else σ.2 k') i' = _
  by_cases hk : k' = k
  · subst hk; rw [hg] at e; exact absurd e (by decide)
  · rw [if_neg hk]; exact (h k' i' e).2
section FRP
variable {α β : Type} {g : Nat → Nat → Nat} {m : Nat} {σ0 : S2}
theorem frp_n : FrP (α := α) g m σ0 none := fun _ h => by cases h
theorem frp_s {x : α} {σ : S2} (h : Fr g m σ0 σ) : FrP g m σ0 (some (x, σ)) := fun z e => by cases e; exact h
theorem frp_if {c : Prop} {q : Decidable c} {a b : Option (α × S2)} (ha : FrP g m σ0 a) (hb : FrP g m σ0 b) : FrP g m σ0 (@ite _ c q a b) := by
  by_cases h : c
  · rw [if_pos h]; exact ha
  · rw [if_neg h]; exact hb
theorem frp_nm {x : β} {K : β → Option (α × S2)} (h : ∀ v, FrP g m σ0 (K v)) : FrP g m σ0 (nm x K) := h x
theorem frp_w {x : S2} {K : S2 → Option (α × S2)} (hx : Fr g m σ0 x) (h : ∀ σ, Fr g m σ0 σ → FrP g m σ0 (K σ)) : FrP g m σ0 (nm x K) := h x hx
theorem frp_ck {n : Nat} {i : Int32} {K : Option (α × S2)} (h : Int32.toNatClampNeg i < n → FrP g m σ0 K) : FrP g m σ0 (ck n i K) := by
  unfold ck
  by_cases c : i < 0 ∨ n ≤ i.toNatClampNeg
  · rw [if_pos c]; exact frp_n
  · rw [if_neg c]; exact h (Nat.lt_of_not_le (fun q => c (Or.inr q)))
theorem frp_dz {y : Int32} {K : Option (α × S2)} (h : FrP g m σ0 K) : FrP g m σ0 (dz y K) := frp_if frp_n h
theorem frp_zb {y : Int32} {K : Option (α × S2)} (h : FrP g m σ0 K) : FrP g m σ0 (zb y K) := frp_if h frp_n
theorem frp_zf {y : Int32} {K : Option (α × S2)} (h : FrP g m σ0 K) : FrP g m σ0 (zf y K) := frp_if h frp_n
theorem frp_cp {ty : FieldType} {n0 n1 : Nat} {f : Nat → Int32} {a b n : Int32} {K : Option (α × S2)} (h : FrP g m σ0 K) : FrP g m σ0 (cp ty n0 n1 f a b n K) := frp_if h frp_n
theorem frp_cpL {n0 n1 : Nat} {f : Nat → Int64} {a b n : Int32} {K : Option (α × S2)} (h : FrP g m σ0 K) : FrP g m σ0 (cpL n0 n1 f a b n K) := frp_if h frp_n
theorem frp_bi {o : Option β} {K : β → Option (α × S2)} (h : ∀ r, FrP g m σ0 (K r)) : FrP g m σ0 (bi o K) := by
  cases o with
  | none => exact frp_n
  | some r => exact h r
theorem frp_bs {o : Option (β × S2)} {K : β → S2 → Option (α × S2)} (ho : FrP g m σ0 o) (h : ∀ r σ, Fr g m σ0 σ → FrP g m σ0 (K r σ)) : FrP g m σ0 (bs o K) := by
  cases o with
  | none => exact frp_n
  | some z => exact h z.1 z.2 (ho z rfl)
theorem frp_bt {o : Option (Option Nat)} {K0 : Option (α × S2)} {K1 : Nat → Option (α × S2)} (h0 : FrP g m σ0 K0) (h1 : ∀ b, FrP g m σ0 (K1 b)) : FrP g m σ0 (bt o K0 K1) := by
  unfold bt
  split
  · exact frp_n
  · exact h0
  · exact h1 _
end FRP
noncomputable def gM0 (i : Nat) : Nat := match i with | 0 => 2 | 3 => 3 | 9 => 24 | 22 => 1 | 29 => 15 | 30 => 16 | 32 => 17 | 34 => 18 | 36 => 19 | 38 => 20 | _ => 0
noncomputable def gM (k i : Nat) : Nat := match k with | 0 => gM0 i | 1 => 2 | 2 => 2 | 3 => 5 | 4 => 6 | 5 => 4 | 6 => 7 | 7 => 8 | 8 => 9 | 9 => 9 | 10 => 9 | 11 => 9 | 12 => 9 | 13 => 9 | 14 => 9 | 15 => 9 | 16 => 9 | 17 => 9 | 18 => 9 | 19 => 1 | 20 => 11 | 21 => 12 | 22 => 12 | 23 => 13 | 24 => 13 | 25 => 14 | 26 => 16 | 27 => 17 | 28 => 18 | 29 => 20 | 30 => 21 | 31 => 21 | 32 => 21 | 33 => 22 | _ => 0
noncomputable def gF (k i : Nat) : Nat := match k with | 0 => (match i with | 6 => 24 | _ => 0) | 1 => (match i with | 1 => 1 | _ => 0) | 2 => 1 | 3 => (match i with | 3 => 2 | _ => 0) | 5 => 2 | 7 => (match i with | 5 => 3 | _ => 0) | 8 => 4 | 9 => 5 | 10 => 6 | 11 => 7 | 12 => 8 | 18 => (match i with | 8 => 15 | _ => 0) | 24 => 14 | 27 => (match i with | 1 => 16 | 3 => 17 | _ => 0) | 28 => 16 | 29 => 17 | 32 => (match i with | 1 => 18 | 2 => 19 | _ => 0) | 33 => 18 | 35 => (match i with | 1 => 20 | _ => 0) | 36 => 20 | 38 => 21 | 39 => 21 | 40 => 21 | _ => 0
noncomputable def gB (j i g : Nat) : Nat := match j with | 0 => if i = 7 then 10 else g | 2 => 10 | _ => g
noncomputable def gT (b : Nat) : Nat := if b = 0 then 23 else 9
noncomputable def gC (k i : Nat) : Nat := if k < 44 then gF k i else if k < 84 then 2 else if k < 96 then 11 else if k < 108 then 12 else if k < 120 then 12 else if k < 132 then 13 else if k < 144 then 13 else if k < 176 then 0 else if k < 182 then 22 else gB ((k - 182) % 6) i (if k < 188 then 23 else 9)
theorem tr_44 {m n i : Nat} (hm : m.testBit 2 = true) (h : n < 40) : m.testBit (gC (44 + n) i) = true := by
  unfold gC
  rw [if_neg (by omega), if_pos (by omega)]; exact hm
theorem tr_84 {m n i : Nat} (hm : m.testBit 11 = true) (h : n < 12) : m.testBit (gC (84 + n) i) = true := by
  unfold gC
  rw [if_neg (by omega), if_neg (by omega), if_pos (by omega)]; exact hm
theorem tr_96 {m n i : Nat} (hm : m.testBit 12 = true) (h : n < 12) : m.testBit (gC (96 + n) i) = true := by
  unfold gC
  rw [if_neg (by omega), if_neg (by omega), if_neg (by omega), if_pos (by omega)]; exact hm
theorem tr_108 {m n i : Nat} (hm : m.testBit 12 = true) (h : n < 12) : m.testBit (gC (108 + n) i) = true := by
  unfold gC
  rw [if_neg (by omega), if_neg (by omega), if_neg (by omega), if_neg (by omega), if_pos (by omega)]; exact hm
theorem tr_120 {m n i : Nat} (hm : m.testBit 13 = true) (h : n < 12) : m.testBit (gC (120 + n) i) = true := by
  unfold gC
  rw [if_neg (by omega), if_neg (by omega), if_neg (by omega), if_neg (by omega), if_neg (by omega), if_pos (by omega)]; exact hm
theorem tr_132 {m n i : Nat} (hm : m.testBit 13 = true) (h : n < 12) : m.testBit (gC (132 + n) i) = true := by
  unfold gC
  rw [if_neg (by omega), if_neg (by omega), if_neg (by omega), if_neg (by omega), if_neg (by omega), if_neg (by omega), if_pos (by omega)]; exact hm
theorem tr_144 {m n i : Nat} (hm : m.testBit 0 = true) (h : n < 32) : m.testBit (gC (144 + n) i) = true := by
  unfold gC
  rw [if_neg (by omega), if_neg (by omega), if_neg (by omega), if_neg (by omega), if_neg (by omega), if_neg (by omega), if_neg (by omega), if_pos (by omega)]; exact hm
theorem tr_176 {m n i : Nat} (hm : m.testBit 22 = true) (h : n < 6) : m.testBit (gC (176 + n) i) = true := by
  unfold gC
  rw [if_neg (by omega), if_neg (by omega), if_neg (by omega), if_neg (by omega), if_neg (by omega), if_neg (by omega), if_neg (by omega), if_neg (by omega), if_pos (by omega)]; exact hm
theorem tt_0 {m b i : Nat} (hm : m.testBit (gT b) = true) (hi : i ≠ 7) : m.testBit (gC (182 + 6 * b) i) = true := by
  unfold gC
  rw [if_neg (by omega), if_neg (by omega), if_neg (by omega), if_neg (by omega), if_neg (by omega), if_neg (by omega), if_neg (by omega), if_neg (by omega), if_neg (by omega), show (182 + 6 * b - 182) % 6 = 0 by omega]
  have e : (if 182 + 6 * b < 188 then 23 else 9) = gT b := by
    unfold gT
    by_cases h : b = 0
    · rw [if_pos (by omega), if_pos h]
    · rw [if_neg (by omega), if_neg h]
  rw [e]
  rw [show gB 0 i (gT b) = gT b from if_neg hi]; exact hm
theorem to_0 {m b : Nat} (hm : m.testBit 10 = true) : m.testBit (gC (182 + 6 * b) 7) = true := by
  unfold gC
  rw [if_neg (by omega), if_neg (by omega), if_neg (by omega), if_neg (by omega), if_neg (by omega), if_neg (by omega), if_neg (by omega), if_neg (by omega), if_neg (by omega), show (182 + 6 * b - 182) % 6 = 0 by omega]
  exact hm
theorem tt_1 {m b i : Nat} (hm : m.testBit (gT b) = true) : m.testBit (gC (182 + 6 * b + 1) i) = true := by
  unfold gC
  rw [if_neg (by omega), if_neg (by omega), if_neg (by omega), if_neg (by omega), if_neg (by omega), if_neg (by omega), if_neg (by omega), if_neg (by omega), if_neg (by omega), show (182 + 6 * b + 1 - 182) % 6 = 1 by omega]
  have e : (if 182 + 6 * b + 1 < 188 then 23 else 9) = gT b := by
    unfold gT
    by_cases h : b = 0
    · rw [if_pos (by omega), if_pos h]
    · rw [if_neg (by omega), if_neg h]
  rw [e]
  exact hm
theorem to_2 {m b i : Nat} (hm : m.testBit 10 = true) : m.testBit (gC (182 + 6 * b + 2) i) = true := by
  unfold gC
  rw [if_neg (by omega), if_neg (by omega), if_neg (by omega), if_neg (by omega), if_neg (by omega), if_neg (by omega), if_neg (by omega), if_neg (by omega), if_neg (by omega), show (182 + 6 * b + 2 - 182) % 6 = 2 by omega]
  exact hm
theorem tt_3 {m b i : Nat} (hm : m.testBit (gT b) = true) : m.testBit (gC (182 + 6 * b + 3) i) = true := by
  unfold gC
  rw [if_neg (by omega), if_neg (by omega), if_neg (by omega), if_neg (by omega), if_neg (by omega), if_neg (by omega), if_neg (by omega), if_neg (by omega), if_neg (by omega), show (182 + 6 * b + 3 - 182) % 6 = 3 by omega]
  have e : (if 182 + 6 * b + 3 < 188 then 23 else 9) = gT b := by
    unfold gT
    by_cases h : b = 0
    · rw [if_pos (by omega), if_pos h]
    · rw [if_neg (by omega), if_neg h]
  rw [e]
  exact hm
theorem tt_4 {m b i : Nat} (hm : m.testBit (gT b) = true) : m.testBit (gC (182 + 6 * b + 4) i) = true := by
  unfold gC
  rw [if_neg (by omega), if_neg (by omega), if_neg (by omega), if_neg (by omega), if_neg (by omega), if_neg (by omega), if_neg (by omega), if_neg (by omega), if_neg (by omega), show (182 + 6 * b + 4 - 182) % 6 = 4 by omega]
  have e : (if 182 + 6 * b + 4 < 188 then 23 else 9) = gT b := by
    unfold gT
    by_cases h : b = 0
    · rw [if_pos (by omega), if_pos h]
    · rw [if_neg (by omega), if_neg h]
  rw [e]
  exact hm
theorem tt_5 {m b i : Nat} (hm : m.testBit (gT b) = true) : m.testBit (gC (182 + 6 * b + 5) i) = true := by
  unfold gC
  rw [if_neg (by omega), if_neg (by omega), if_neg (by omega), if_neg (by omega), if_neg (by omega), if_neg (by omega), if_neg (by omega), if_neg (by omega), if_neg (by omega), show (182 + 6 * b + 5 - 182) % 6 = 5 by omega]
  have e : (if 182 + 6 * b + 5 < 188 then 23 else 9) = gT b := by
    unfold gT
    by_cases h : b = 0
    · rw [if_pos (by omega), if_pos h]
    · rw [if_neg (by omega), if_neg h]
  rw [e]
  exact hm
theorem gT_ok {m : Nat} (h0 : m.testBit 23 = true) (h9 : m.testBit 9 = true) (b : Nat) : m.testBit (gT b) = true := by
  unfold gT
  by_cases h : b = 0
  · rw [if_pos h]; exact h0
  · rw [if_neg h]; exact h9
end
section
theorem wfX12_feed_27 {m : Nat} {σ0 : S2} (hm : 2 ||| m = m) : ∀ (n : Nat) (σ : S2) (x1 : Int32) (x2 : Int32) (x3 : Int32), Fr gM m σ0 σ → FrP gM m σ0 (fX12_feed_27 n σ x1 x2 x3) := by
  intro n
  induction n with
  | zero => intro σ x1 x2 x3 _; exact frp_n
  | succ n ih =>
    intro σ x1 x2 x3 h
    unfold fX12_feed_27
    refine frp_if ?_ ?_
    · skip
      exact frp_s h
    · skip
      refine frp_ck (fun b1 => ?_)
      refine frp_w (Fr.wI h (tb_of (g := 1) hm rfl)) (fun σ1 h2 => ?_)
      refine frp_w (Fr.wI h2 (tb_of (g := 1) hm rfl)) (fun σ2 h3 => ?_)
      refine frp_nm (fun v3 => ?_)
      exact (ih _ _ _ _ h3)
theorem wfX12_feed_0 {m : Nat} {σ0 : S2} (hm : 2 ||| m = m) (σ : S2) (x1 : Int32) (x2 : Int32) (h : Fr gM m σ0 σ) : FrP gM m σ0 (fX12_feed_0 σ x1 x2) := by
  unfold fX12_feed_0
  refine frp_bi (fun r4 => ?_)
  refine frp_if ?_ ?_
  · skip
    exact frp_s h
  · skip
    refine frp_if ?_ ?_
    · skip
      exact (wfX12_feed_27 hm _ _ _ _ _ h)
    · skip
      exact frp_s h
theorem wfX12_feed {m : Nat} {σ0 : S2} (hm : 2 ||| m = m) (σ : S2) (a1 : Int32) (a2 : Int32) (h : Fr gM m σ0 σ) : FrP gM m σ0 (fX12_feed σ a1 a2) := by
  unfold fX12_feed
  exact (wfX12_feed_0 hm _ _ _ h)
theorem wfX12_comesName_12 {m : Nat} {σ0 : S2} (hm : 4 ||| m = m) : ∀ (n : Nat) (σ : S2) (x1 : Int32) (x2 : Int32), Fr gM m σ0 σ → FrP gM m σ0 (fX12_comesName_12 n σ x1 x2) := by
  intro n
  induction n with
  | zero => intro σ x1 x2 _; exact frp_n
  | succ n ih =>
    intro σ x1 x2 h
    unfold fX12_comesName_12
    refine frp_if ?_ ?_
    · skip
      refine frp_w (Fr.wI h (tb_of (g := 2) hm rfl)) (fun σ1 h1 => ?_)
      exact frp_s h1
    · skip
      refine frp_ck (fun b2 => ?_)
      refine frp_nm (fun v2 => ?_)
      refine frp_ck (fun b3 => ?_)
      refine frp_w (Fr.wI h (tb_of (g := 2) hm rfl)) (fun σ3 h4 => ?_)
      refine frp_nm (fun v4 => ?_)
      exact (ih _ _ _ h4)
theorem wfX12_comesName_0 {m : Nat} {σ0 : S2} (hm : 4 ||| m = m) (σ : S2) (x1 : Int32) (h : Fr gM m σ0 σ) : FrP gM m σ0 (fX12_comesName_0 σ x1) := by
  unfold fX12_comesName_0
  refine frp_ck (fun b1 => ?_)
  refine frp_w (Fr.wI h (tb_of (g := 2) hm rfl)) (fun σ5 h2 => ?_)
  exact (wfX12_comesName_12 hm _ _ _ _ h2)
theorem wfX12_comesName {m : Nat} {σ0 : S2} (hm : 4 ||| m = m) (σ : S2) (a1 : Int32) (h : Fr gM m σ0 σ) : FrP gM m σ0 (fX12_comesName σ a1) := by
  unfold fX12_comesName
  exact (wfX12_comesName_0 hm _ _ h)
theorem wfX12_name_85 {m : Nat} {σ0 : S2} (hm : 7 ||| m = m) (σ : S2) (x1 : Int32) (h : Fr gM m σ0 σ) : FrP gM m σ0 (fX12_name_85 σ x1) := by
  unfold fX12_name_85
  refine frp_w (Fr.wI h (tb_of (g := 1) hm rfl)) (fun σ1 h1 => ?_)
  exact frp_s h1
theorem wfX12_name_68 {m : Nat} {σ0 : S2} (hm : 7 ||| m = m) (σ : S2) (x1 : Int32) (h : Fr gM m σ0 σ) : FrP gM m σ0 (fX12_name_68 σ x1) := by
  unfold fX12_name_68
  refine frp_if ?_ ?_
  · skip
    exact (wfX12_name_85 hm _ _ h)
  · skip
    refine frp_nm (fun v2 => ?_)
    refine frp_bs (wfX12_comesName (tb_sub (a := 7) rfl hm) _ _ h) (fun r3 σ4 h1 => ?_)
    exact (wfX12_name_85 hm _ _ h1)
theorem wfX12_name_17 {m : Nat} {σ0 : S2} (hm : 7 ||| m = m) : ∀ (n : Nat) (σ : S2) (x1 : Int32), Fr gM m σ0 σ → FrP gM m σ0 (fX12_name_17 n σ x1) := by
  intro n
  induction n with
  | zero => intro σ x1 _; exact frp_n
  | succ n ih =>
    intro σ x1 h
    unfold fX12_name_17
    refine frp_if ?_ ?_
    · skip
      refine frp_bi (fun r6 => ?_)
      refine frp_if ?_ ?_
      · skip
        exact (wfX12_name_68 hm _ _ h)
      · skip
        refine frp_if ?_ ?_
        · skip
          exact frp_s h
        · skip
          exact (wfX12_name_68 hm _ _ h)
    · skip
      refine frp_ck (fun b1 => ?_)
      refine frp_nm (fun v8 => ?_)
      refine frp_ck (fun b2 => ?_)
      refine frp_w (Fr.wI h (tb_of (g := 0) hm rfl)) (fun σ9 h3 => ?_)
      refine frp_nm (fun v10 => ?_)
      exact (ih _ _ h3)
theorem wfX12_name_0 {m : Nat} {σ0 : S2} (hm : 7 ||| m = m) (σ : S2) (h : Fr gM m σ0 σ) : FrP gM m σ0 (fX12_name_0 σ) := by
  unfold fX12_name_0
  refine frp_bi (fun r11 => ?_)
  refine frp_if ?_ ?_
  · skip
    exact frp_s h
  · skip
    exact (wfX12_name_17 hm _ _ _ h)
theorem wfX12_name {m : Nat} {σ0 : S2} (hm : 7 ||| m = m) (σ : S2) (h : Fr gM m σ0 σ) : FrP gM m σ0 (fX12_name σ) := by
  unfold fX12_name
  exact (wfX12_name_0 hm _ h)
theorem wfX12_keeper_0 {m : Nat} {σ0 : S2} (hm : 104 ||| m = m) (σ : S2) (x1 : Int32) (x2 : Int32) (h : Fr gM m σ0 σ) : FrP gM m σ0 (fX12_keeper_0 σ x1 x2) := by
  unfold fX12_keeper_0
  refine frp_bi (fun r1 => ?_)
  refine frp_if ?_ ?_
  · skip
    exact frp_s h
  · skip
    refine frp_bi (fun r3 => ?_)
    refine frp_if ?_ ?_
    · skip
      exact frp_s h
    · skip
      refine frp_if ?_ ?_
      · skip
        exact frp_s h
      · skip
        refine frp_ck (fun b1 => ?_)
        refine frp_w (Fr.wI h (tb_of (g := 5) hm rfl)) (fun σ5 h2 => ?_)
        refine frp_ck (fun b3 => ?_)
        refine frp_w (Fr.wI h2 (tb_of (g := 6) hm rfl)) (fun σ6 h4 => ?_)
        refine frp_w (Fr.wI h4 (tb_of (g := 3) hm rfl)) (fun σ7 h5 => ?_)
        exact frp_s h5
theorem wfX12_keeper {m : Nat} {σ0 : S2} (hm : 104 ||| m = m) (σ : S2) (a1 : Int32) (a2 : Int32) (h : Fr gM m σ0 σ) : FrP gM m σ0 (fX12_keeper σ a1 a2) := by
  unfold fX12_keeper
  exact (wfX12_keeper_0 hm _ _ _ h)
theorem wfX12_become_136 {m : Nat} {σ0 : S2} (hm : 6160 ||| m = m) (k37 : S2 → Int32 → Int32 → Int32 → Int32 → Option (Int32 × S2)) (hk37 : ∀ (y0 : S2) (y1 : Int32) (y2 : Int32) (y3 : Int32) (y4 : Int32), Fr gM m σ0 y0 → FrP gM m σ0 (k37 y0 y1 y2 y3 y4)) (σ : S2) (x1 : Int32) (x2 : Int32) (x3 : Int32) (x4 : Int32) (h : Fr gM m σ0 σ) : FrP gM m σ0 (fX12_become_136 k37 σ x1 x2 x3 x4) := by
  unfold fX12_become_136
  refine frp_nm (fun v1 => ?_)
  exact (hk37 _ _ _ _ _ h)
theorem wfX12_become_118 {m : Nat} {σ0 : S2} (hm : 6160 ||| m = m) (k37 : S2 → Int32 → Int32 → Int32 → Int32 → Option (Int32 × S2)) (hk37 : ∀ (y0 : S2) (y1 : Int32) (y2 : Int32) (y3 : Int32) (y4 : Int32), Fr gM m σ0 y0 → FrP gM m σ0 (k37 y0 y1 y2 y3 y4)) (σ : S2) (x1 : Int32) (x2 : Int32) (x3 : Int32) (x4 : Int32) (s0 : Int32) (s1 : Int32) (h : Fr gM m σ0 σ) : FrP gM m σ0 (fX12_become_118 k37 σ x1 x2 x3 x4 s0 s1) := by
  unfold fX12_become_118
  refine frp_ck (fun b1 => ?_)
  refine frp_w (Fr.wI h (tb_of (g := 11) hm rfl)) (fun σ2 h2 => ?_)
  refine frp_ck (fun b3 => ?_)
  refine frp_w (Fr.wI h2 (tb_of (g := 12) hm rfl)) (fun σ3 h4 => ?_)
  refine frp_ck (fun b5 => ?_)
  refine frp_w (Fr.wI h4 (tb_of (g := 12) hm rfl)) (fun σ4 h6 => ?_)
  exact (wfX12_become_136 hm _ hk37 _ _ _ _ _ h6)
theorem wfX12_become_37 {m : Nat} {σ0 : S2} (hm : 6160 ||| m = m) : ∀ (n : Nat) (σ : S2) (x1 : Int32) (x2 : Int32) (x3 : Int32) (x4 : Int32), Fr gM m σ0 σ → FrP gM m σ0 (fX12_become_37 n σ x1 x2 x3 x4) := by
  intro n
  induction n with
  | zero => intro σ x1 x2 x3 x4 _; exact frp_n
  | succ n ih =>
    intro σ x1 x2 x3 x4 h
    unfold fX12_become_37
    refine frp_if ?_ ?_
    · skip
      exact frp_s h
    · skip
      refine frp_if ?_ ?_
      · skip
        refine frp_if ?_ ?_
        · skip
          exact frp_s h
        · skip
          refine frp_ck (fun b1 => ?_)
          refine frp_nm (fun v5 => ?_)
          refine frp_if ?_ ?_
          · skip
            refine frp_dz ?_
            refine frp_nm (fun v7 => ?_)
            refine frp_ck (fun b2 => ?_)
            refine frp_nm (fun v8 => ?_)
            refine frp_ck (fun b3 => ?_)
            refine frp_nm (fun v9 => ?_)
            refine frp_if ?_ ?_
            · skip
              refine frp_ck (fun b4 => ?_)
              refine frp_nm (fun v10 => ?_)
              exact (wfX12_become_118 hm _ ih _ _ _ _ _ _ _ h)
            · skip
              refine frp_ck (fun b5 => ?_)
              refine frp_nm (fun v11 => ?_)
              exact (wfX12_become_118 hm _ ih _ _ _ _ _ _ _ h)
          · skip
            exact (wfX12_become_136 hm _ ih _ _ _ _ _ h)
      · skip
        exact frp_s h
theorem wfX12_become_0 {m : Nat} {σ0 : S2} (hm : 6160 ||| m = m) (σ : S2) (x1 : Int32) (x2 : Int32) (h : Fr gM m σ0 σ) : FrP gM m σ0 (fX12_become_0 σ x1 x2) := by
  unfold fX12_become_0
  refine frp_bi (fun r12 => ?_)
  refine frp_if ?_ ?_
  · skip
    exact frp_s h
  · skip
    refine frp_bi (fun r14 => ?_)
    refine frp_if ?_ ?_
    · skip
      exact frp_s h
    · skip
      refine frp_ck (fun b1 => ?_)
      refine frp_nm (fun v16 => ?_)
      refine frp_ck (fun b2 => ?_)
      refine frp_w (Fr.wI h (tb_of (g := 4) hm rfl)) (fun σ17 h3 => ?_)
      exact (wfX12_become_37 hm _ _ _ _ _ _ h3)
theorem wfX12_become {m : Nat} {σ0 : S2} (hm : 6160 ||| m = m) (σ : S2) (a1 : Int32) (a2 : Int32) (h : Fr gM m σ0 σ) : FrP gM m σ0 (fX12_become σ a1 a2) := by
  unfold fX12_become
  exact (wfX12_become_0 hm _ _ _ h)
theorem wfX12_strength_0 {m : Nat} {σ0 : S2} (hm : 64 ||| m = m) (σ : S2) (x1 : Int32) (x2 : Int32) (h : Fr gM m σ0 σ) : FrP gM m σ0 (fX12_strength_0 σ x1 x2) := by
  unfold fX12_strength_0
  refine frp_bi (fun r1 => ?_)
  refine frp_if ?_ ?_
  · skip
    exact frp_s h
  · skip
    refine frp_bi (fun r3 => ?_)
    refine frp_if ?_ ?_
    · skip
      exact frp_s h
    · skip
      refine frp_ck (fun b1 => ?_)
      refine frp_nm (fun v5 => ?_)
      refine frp_ck (fun b2 => ?_)
      refine frp_w (Fr.wI h (tb_of (g := 6) hm rfl)) (fun σ6 h3 => ?_)
      exact frp_s h3
theorem wfX12_strength {m : Nat} {σ0 : S2} (hm : 64 ||| m = m) (σ : S2) (a1 : Int32) (a2 : Int32) (h : Fr gM m σ0 σ) : FrP gM m σ0 (fX12_strength σ a1 a2) := by
  unfold fX12_strength
  exact (wfX12_strength_0 hm _ _ _ h)
theorem wfX12_eats_28 {m : Nat} {σ0 : S2} (hm : 1 ||| m = m) (σ : S2) (h : Fr gM m σ0 σ) : FrP gM m σ0 (fX12_eats_28 σ) := by
  unfold fX12_eats_28
  refine frp_w (Fr.wI h (tb_of (g := 0) hm rfl)) (fun σ1 h1 => ?_)
  exact frp_s h1
theorem wfX12_eats_0 {m : Nat} {σ0 : S2} (hm : 1 ||| m = m) (σ : S2) (x1 : Int32) (h : Fr gM m σ0 σ) : FrP gM m σ0 (fX12_eats_0 σ x1) := by
  unfold fX12_eats_0
  refine frp_if ?_ ?_
  · skip
    refine frp_bi (fun r2 => ?_)
    refine frp_if ?_ ?_
    · skip
      refine frp_w (Fr.wI h (tb_of (g := 0) hm rfl)) (fun σ4 h1 => ?_)
      exact frp_s h1
    · skip
      exact (wfX12_eats_28 hm _ h)
  · skip
    exact (wfX12_eats_28 hm _ h)
theorem wfX12_eats {m : Nat} {σ0 : S2} (hm : 1 ||| m = m) (σ : S2) (a1 : Int32) (h : Fr gM m σ0 σ) : FrP gM m σ0 (fX12_eats σ a1) := by
  unfold fX12_eats
  exact (wfX12_eats_0 hm _ _ h)
theorem wfX12_sum_73 {m : Nat} {σ0 : S2} (hm : 1 ||| m = m) (qX12_sum : S2 → Option (Int32 × S2)) (qX12_product : S2 → Option (Int32 × S2)) (qX12_one : S2 → Option (Int32 × S2)) (k5 : S2 → Int32 → Option (Int32 × S2)) (hqX12_sum : ∀ (y0 : S2), Fr gM m σ0 y0 → FrP gM m σ0 (qX12_sum y0)) (hqX12_product : ∀ (y0 : S2), Fr gM m σ0 y0 → FrP gM m σ0 (qX12_product y0)) (hqX12_one : ∀ (y0 : S2), Fr gM m σ0 y0 → FrP gM m σ0 (qX12_one y0)) (hk5 : ∀ (y0 : S2) (y1 : Int32), Fr gM m σ0 y0 → FrP gM m σ0 (k5 y0 y1)) (σ : S2) (s0 : Int32) (h : Fr gM m σ0 σ) : FrP gM m σ0 (fX12_sum_73 qX12_sum qX12_product qX12_one k5 σ s0) := by
  unfold fX12_sum_73
  exact (hk5 _ _ h)
theorem wfX12_sum_44 {m : Nat} {σ0 : S2} (hm : 1 ||| m = m) (qX12_sum : S2 → Option (Int32 × S2)) (qX12_product : S2 → Option (Int32 × S2)) (qX12_one : S2 → Option (Int32 × S2)) (k5 : S2 → Int32 → Option (Int32 × S2)) (hqX12_sum : ∀ (y0 : S2), Fr gM m σ0 y0 → FrP gM m σ0 (qX12_sum y0)) (hqX12_product : ∀ (y0 : S2), Fr gM m σ0 y0 → FrP gM m σ0 (qX12_product y0)) (hqX12_one : ∀ (y0 : S2), Fr gM m σ0 y0 → FrP gM m σ0 (qX12_one y0)) (hk5 : ∀ (y0 : S2) (y1 : Int32), Fr gM m σ0 y0 → FrP gM m σ0 (k5 y0 y1)) (σ : S2) (x1 : Int32) (s0 : Int32) (h : Fr gM m σ0 σ) : FrP gM m σ0 (fX12_sum_44 qX12_sum qX12_product qX12_one k5 σ x1 s0) := by
  unfold fX12_sum_44
  refine frp_w (Fr.wI h (tb_of (g := 0) hm rfl)) (fun σ1 h1 => ?_)
  refine frp_bs (hqX12_product _ h1) (fun r2 σ3 h2 => ?_)
  refine frp_if ?_ ?_
  · skip
    exact (wfX12_sum_73 hm _ _ _ _ hqX12_sum hqX12_product hqX12_one hk5 _ _ h2)
  · skip
    exact (wfX12_sum_73 hm _ _ _ _ hqX12_sum hqX12_product hqX12_one hk5 _ _ h2)
theorem wfX12_sum_30 {m : Nat} {σ0 : S2} (hm : 1 ||| m = m) (qX12_sum : S2 → Option (Int32 × S2)) (qX12_product : S2 → Option (Int32 × S2)) (qX12_one : S2 → Option (Int32 × S2)) (k5 : S2 → Int32 → Option (Int32 × S2)) (hqX12_sum : ∀ (y0 : S2), Fr gM m σ0 y0 → FrP gM m σ0 (qX12_sum y0)) (hqX12_product : ∀ (y0 : S2), Fr gM m σ0 y0 → FrP gM m σ0 (qX12_product y0)) (hqX12_one : ∀ (y0 : S2), Fr gM m σ0 y0 → FrP gM m σ0 (qX12_one y0)) (hk5 : ∀ (y0 : S2) (y1 : Int32), Fr gM m σ0 y0 → FrP gM m σ0 (k5 y0 y1)) (σ : S2) (x1 : Int32) (h : Fr gM m σ0 σ) : FrP gM m σ0 (fX12_sum_30 qX12_sum qX12_product qX12_one k5 σ x1) := by
  unfold fX12_sum_30
  refine frp_bi (fun r5 => ?_)
  refine frp_if ?_ ?_
  · skip
    exact (wfX12_sum_44 hm _ _ _ _ hqX12_sum hqX12_product hqX12_one hk5 _ _ _ h)
  · skip
    exact (wfX12_sum_44 hm _ _ _ _ hqX12_sum hqX12_product hqX12_one hk5 _ _ _ h)
theorem wfX12_sum_5 {m : Nat} {σ0 : S2} (hm : 1 ||| m = m) (qX12_sum : S2 → Option (Int32 × S2)) (qX12_product : S2 → Option (Int32 × S2)) (qX12_one : S2 → Option (Int32 × S2)) (hqX12_sum : ∀ (y0 : S2), Fr gM m σ0 y0 → FrP gM m σ0 (qX12_sum y0)) (hqX12_product : ∀ (y0 : S2), Fr gM m σ0 y0 → FrP gM m σ0 (qX12_product y0)) (hqX12_one : ∀ (y0 : S2), Fr gM m σ0 y0 → FrP gM m σ0 (qX12_one y0)) : ∀ (n : Nat) (σ : S2) (x1 : Int32), Fr gM m σ0 σ → FrP gM m σ0 (fX12_sum_5 qX12_sum qX12_product qX12_one n σ x1) := by
  intro n
  induction n with
  | zero => intro σ x1 _; exact frp_n
  | succ n ih =>
    intro σ x1 h
    unfold fX12_sum_5
    refine frp_if ?_ ?_
    · skip
      refine frp_bi (fun r7 => ?_)
      refine frp_if ?_ ?_
      · skip
        exact (wfX12_sum_30 hm _ _ _ _ hqX12_sum hqX12_product hqX12_one ih _ _ h)
      · skip
        refine frp_bi (fun r9 => ?_)
        refine frp_if ?_ ?_
        · skip
          exact (wfX12_sum_30 hm _ _ _ _ hqX12_sum hqX12_product hqX12_one ih _ _ h)
        · skip
          exact frp_s h
    · skip
      exact frp_s h
theorem wfX12_sum_0 {m : Nat} {σ0 : S2} (hm : 1 ||| m = m) (qX12_sum : S2 → Option (Int32 × S2)) (qX12_product : S2 → Option (Int32 × S2)) (qX12_one : S2 → Option (Int32 × S2)) (hqX12_sum : ∀ (y0 : S2), Fr gM m σ0 y0 → FrP gM m σ0 (qX12_sum y0)) (hqX12_product : ∀ (y0 : S2), Fr gM m σ0 y0 → FrP gM m σ0 (qX12_product y0)) (hqX12_one : ∀ (y0 : S2), Fr gM m σ0 y0 → FrP gM m σ0 (qX12_one y0)) (σ : S2) (h : Fr gM m σ0 σ) : FrP gM m σ0 (fX12_sum_0 qX12_sum qX12_product qX12_one σ) := by
  unfold fX12_sum_0
  refine frp_bs (hqX12_product _ h) (fun r11 σ12 h1 => ?_)
  exact (wfX12_sum_5 hm _ _ _ hqX12_sum hqX12_product hqX12_one _ _ _ h1)
theorem weX12_sum {m : Nat} {σ0 : S2} (hm : 1 ||| m = m) (qX12_sum : S2 → Option (Int32 × S2)) (qX12_product : S2 → Option (Int32 × S2)) (qX12_one : S2 → Option (Int32 × S2)) (hqX12_sum : ∀ (y0 : S2), Fr gM m σ0 y0 → FrP gM m σ0 (qX12_sum y0)) (hqX12_product : ∀ (y0 : S2), Fr gM m σ0 y0 → FrP gM m σ0 (qX12_product y0)) (hqX12_one : ∀ (y0 : S2), Fr gM m σ0 y0 → FrP gM m σ0 (qX12_one y0)) (σ : S2) (h : Fr gM m σ0 σ) : FrP gM m σ0 (eX12_sum qX12_sum qX12_product qX12_one σ) := by
  unfold eX12_sum
  exact (wfX12_sum_0 hm _ _ _ hqX12_sum hqX12_product hqX12_one _ h)
theorem wfX12_product_114 {m : Nat} {σ0 : S2} (hm : 1 ||| m = m) (qX12_sum : S2 → Option (Int32 × S2)) (qX12_product : S2 → Option (Int32 × S2)) (qX12_one : S2 → Option (Int32 × S2)) (k5 : S2 → Int32 → Option (Int32 × S2)) (hqX12_sum : ∀ (y0 : S2), Fr gM m σ0 y0 → FrP gM m σ0 (qX12_sum y0)) (hqX12_product : ∀ (y0 : S2), Fr gM m σ0 y0 → FrP gM m σ0 (qX12_product y0)) (hqX12_one : ∀ (y0 : S2), Fr gM m σ0 y0 → FrP gM m σ0 (qX12_one y0)) (hk5 : ∀ (y0 : S2) (y1 : Int32), Fr gM m σ0 y0 → FrP gM m σ0 (k5 y0 y1)) (σ : S2) (s0 : Int32) (h : Fr gM m σ0 σ) : FrP gM m σ0 (fX12_product_114 qX12_sum qX12_product qX12_one k5 σ s0) := by
  unfold fX12_product_114
  exact (hk5 _ _ h)
theorem wfX12_product_39 {m : Nat} {σ0 : S2} (hm : 1 ||| m = m) (qX12_sum : S2 → Option (Int32 × S2)) (qX12_product : S2 → Option (Int32 × S2)) (qX12_one : S2 → Option (Int32 × S2)) (k5 : S2 → Int32 → Option (Int32 × S2)) (hqX12_sum : ∀ (y0 : S2), Fr gM m σ0 y0 → FrP gM m σ0 (qX12_sum y0)) (hqX12_product : ∀ (y0 : S2), Fr gM m σ0 y0 → FrP gM m σ0 (qX12_product y0)) (hqX12_one : ∀ (y0 : S2), Fr gM m σ0 y0 → FrP gM m σ0 (qX12_one y0)) (hk5 : ∀ (y0 : S2) (y1 : Int32), Fr gM m σ0 y0 → FrP gM m σ0 (k5 y0 y1)) (σ : S2) (x1 : Int32) (h : Fr gM m σ0 σ) : FrP gM m σ0 (fX12_product_39 qX12_sum qX12_product qX12_one k5 σ x1) := by
  unfold fX12_product_39
  refine frp_bi (fun r1 => ?_)
  refine frp_w (Fr.wI h (tb_of (g := 0) hm rfl)) (fun σ3 h1 => ?_)
  refine frp_bs (hqX12_one _ h1) (fun r4 σ5 h2 => ?_)
  refine frp_if ?_ ?_
  · skip
    exact (wfX12_product_114 hm _ _ _ _ hqX12_sum hqX12_product hqX12_one hk5 _ _ h2)
  · skip
    refine frp_if ?_ ?_
    · skip
      exact (wfX12_product_114 hm _ _ _ _ hqX12_sum hqX12_product hqX12_one hk5 _ _ h2)
    · skip
      refine frp_if ?_ ?_
      · skip
        refine frp_if ?_ ?_
        · skip
          exact (wfX12_product_114 hm _ _ _ _ hqX12_sum hqX12_product hqX12_one hk5 _ _ h2)
        · skip
          exact (wfX12_product_114 hm _ _ _ _ hqX12_sum hqX12_product hqX12_one hk5 _ _ h2)
      · skip
        refine frp_if ?_ ?_
        · skip
          refine frp_dz ?_
          exact (wfX12_product_114 hm _ _ _ _ hqX12_sum hqX12_product hqX12_one hk5 _ _ h2)
        · skip
          refine frp_dz ?_
          exact (wfX12_product_114 hm _ _ _ _ hqX12_sum hqX12_product hqX12_one hk5 _ _ h2)
theorem wfX12_product_5 {m : Nat} {σ0 : S2} (hm : 1 ||| m = m) (qX12_sum : S2 → Option (Int32 × S2)) (qX12_product : S2 → Option (Int32 × S2)) (qX12_one : S2 → Option (Int32 × S2)) (hqX12_sum : ∀ (y0 : S2), Fr gM m σ0 y0 → FrP gM m σ0 (qX12_sum y0)) (hqX12_product : ∀ (y0 : S2), Fr gM m σ0 y0 → FrP gM m σ0 (qX12_product y0)) (hqX12_one : ∀ (y0 : S2), Fr gM m σ0 y0 → FrP gM m σ0 (qX12_one y0)) : ∀ (n : Nat) (σ : S2) (x1 : Int32), Fr gM m σ0 σ → FrP gM m σ0 (fX12_product_5 qX12_sum qX12_product qX12_one n σ x1) := by
  intro n
  induction n with
  | zero => intro σ x1 _; exact frp_n
  | succ n ih =>
    intro σ x1 h
    unfold fX12_product_5
    refine frp_if ?_ ?_
    · skip
      refine frp_bi (fun r9 => ?_)
      refine frp_if ?_ ?_
      · skip
        exact (wfX12_product_39 hm _ _ _ _ hqX12_sum hqX12_product hqX12_one ih _ _ h)
      · skip
        refine frp_bi (fun r11 => ?_)
        refine frp_if ?_ ?_
        · skip
          exact (wfX12_product_39 hm _ _ _ _ hqX12_sum hqX12_product hqX12_one ih _ _ h)
        · skip
          refine frp_bi (fun r13 => ?_)
          refine frp_if ?_ ?_
          · skip
            exact (wfX12_product_39 hm _ _ _ _ hqX12_sum hqX12_product hqX12_one ih _ _ h)
          · skip
            exact frp_s h
    · skip
      exact frp_s h
theorem wfX12_product_0 {m : Nat} {σ0 : S2} (hm : 1 ||| m = m) (qX12_sum : S2 → Option (Int32 × S2)) (qX12_product : S2 → Option (Int32 × S2)) (qX12_one : S2 → Option (Int32 × S2)) (hqX12_sum : ∀ (y0 : S2), Fr gM m σ0 y0 → FrP gM m σ0 (qX12_sum y0)) (hqX12_product : ∀ (y0 : S2), Fr gM m σ0 y0 → FrP gM m σ0 (qX12_product y0)) (hqX12_one : ∀ (y0 : S2), Fr gM m σ0 y0 → FrP gM m σ0 (qX12_one y0)) (σ : S2) (h : Fr gM m σ0 σ) : FrP gM m σ0 (fX12_product_0 qX12_sum qX12_product qX12_one σ) := by
  unfold fX12_product_0
  refine frp_bs (hqX12_one _ h) (fun r15 σ16 h1 => ?_)
  exact (wfX12_product_5 hm _ _ _ hqX12_sum hqX12_product hqX12_one _ _ _ h1)
theorem weX12_product {m : Nat} {σ0 : S2} (hm : 1 ||| m = m) (qX12_sum : S2 → Option (Int32 × S2)) (qX12_product : S2 → Option (Int32 × S2)) (qX12_one : S2 → Option (Int32 × S2)) (hqX12_sum : ∀ (y0 : S2), Fr gM m σ0 y0 → FrP gM m σ0 (qX12_sum y0)) (hqX12_product : ∀ (y0 : S2), Fr gM m σ0 y0 → FrP gM m σ0 (qX12_product y0)) (hqX12_one : ∀ (y0 : S2), Fr gM m σ0 y0 → FrP gM m σ0 (qX12_one y0)) (σ : S2) (h : Fr gM m σ0 σ) : FrP gM m σ0 (eX12_product qX12_sum qX12_product qX12_one σ) := by
  unfold eX12_product
  exact (wfX12_product_0 hm _ _ _ hqX12_sum hqX12_product hqX12_one _ h)
theorem wfX12_one_160 {m : Nat} {σ0 : S2} (hm : 1 ||| m = m) (qX12_sum : S2 → Option (Int32 × S2)) (qX12_product : S2 → Option (Int32 × S2)) (qX12_one : S2 → Option (Int32 × S2)) (hqX12_sum : ∀ (y0 : S2), Fr gM m σ0 y0 → FrP gM m σ0 (qX12_sum y0)) (hqX12_product : ∀ (y0 : S2), Fr gM m σ0 y0 → FrP gM m σ0 (qX12_product y0)) (hqX12_one : ∀ (y0 : S2), Fr gM m σ0 y0 → FrP gM m σ0 (qX12_one y0)) (σ : S2) (x1 : Int32) (h : Fr gM m σ0 σ) : FrP gM m σ0 (fX12_one_160 qX12_sum qX12_product qX12_one σ x1) := by
  unfold fX12_one_160
  refine frp_w (Fr.wI h (tb_of (g := 0) hm rfl)) (fun σ1 h1 => ?_)
  refine frp_if ?_ ?_
  · skip
    exact frp_s h1
  · skip
    refine frp_if ?_ ?_
    · skip
      exact frp_s h1
    · skip
      refine frp_if ?_ ?_
      · skip
        exact frp_s h1
      · skip
        exact frp_s h1
theorem wfX12_one_136 {m : Nat} {σ0 : S2} (hm : 1 ||| m = m) (qX12_sum : S2 → Option (Int32 × S2)) (qX12_product : S2 → Option (Int32 × S2)) (qX12_one : S2 → Option (Int32 × S2)) (hqX12_sum : ∀ (y0 : S2), Fr gM m σ0 y0 → FrP gM m σ0 (qX12_sum y0)) (hqX12_product : ∀ (y0 : S2), Fr gM m σ0 y0 → FrP gM m σ0 (qX12_product y0)) (hqX12_one : ∀ (y0 : S2), Fr gM m σ0 y0 → FrP gM m σ0 (qX12_one y0)) (σ : S2) (x1 : Int32) (h : Fr gM m σ0 σ) : FrP gM m σ0 (fX12_one_136 qX12_sum qX12_product qX12_one σ x1) := by
  unfold fX12_one_136
  refine frp_if ?_ ?_
  · skip
    exact (wfX12_one_160 hm _ _ _ hqX12_sum hqX12_product hqX12_one _ _ h)
  · skip
    refine frp_if ?_ ?_
    · skip
      exact (wfX12_one_160 hm _ _ _ hqX12_sum hqX12_product hqX12_one _ _ h)
    · skip
      refine frp_if ?_ ?_
      · skip
        exact (wfX12_one_160 hm _ _ _ hqX12_sum hqX12_product hqX12_one _ _ h)
      · skip
        refine frp_if ?_ ?_
        · skip
          exact (wfX12_one_160 hm _ _ _ hqX12_sum hqX12_product hqX12_one _ _ h)
        · skip
          refine frp_w (Fr.wI h (tb_of (g := 0) hm rfl)) (fun σ2 h1 => ?_)
          exact frp_s h1
theorem wfX12_one_29 {m : Nat} {σ0 : S2} (hm : 1 ||| m = m) (qX12_sum : S2 → Option (Int32 × S2)) (qX12_product : S2 → Option (Int32 × S2)) (qX12_one : S2 → Option (Int32 × S2)) (hqX12_sum : ∀ (y0 : S2), Fr gM m σ0 y0 → FrP gM m σ0 (qX12_sum y0)) (hqX12_product : ∀ (y0 : S2), Fr gM m σ0 y0 → FrP gM m σ0 (qX12_product y0)) (hqX12_one : ∀ (y0 : S2), Fr gM m σ0 y0 → FrP gM m σ0 (qX12_one y0)) : ∀ (n : Nat) (σ : S2) (x2 : Int32) (x3 : Int32), Fr gM m σ0 σ → FrP gM m σ0 (fX12_one_29 qX12_sum qX12_product qX12_one n σ x2 x3) := by
  intro n
  induction n with
  | zero => intro σ x2 x3 _; exact frp_n
  | succ n ih =>
    intro σ x2 x3 h
    unfold fX12_one_29
    refine frp_if ?_ ?_
    · skip
      exact frp_s h
    · skip
      refine frp_bi (fun r3 => ?_)
      refine frp_bi (fun r5 => ?_)
      refine frp_if ?_ ?_
      · skip
        exact frp_s h
      · skip
        refine frp_bi (fun r7 => ?_)
        refine frp_nm (fun v9 => ?_)
        refine frp_w (Fr.wI h (tb_of (g := 0) hm rfl)) (fun σ10 h1 => ?_)
        refine frp_nm (fun v11 => ?_)
        exact (ih _ _ _ h1)
theorem wfX12_one_0 {m : Nat} {σ0 : S2} (hm : 1 ||| m = m) (qX12_sum : S2 → Option (Int32 × S2)) (qX12_product : S2 → Option (Int32 × S2)) (qX12_one : S2 → Option (Int32 × S2)) (hqX12_sum : ∀ (y0 : S2), Fr gM m σ0 y0 → FrP gM m σ0 (qX12_sum y0)) (hqX12_product : ∀ (y0 : S2), Fr gM m σ0 y0 → FrP gM m σ0 (qX12_product y0)) (hqX12_one : ∀ (y0 : S2), Fr gM m σ0 y0 → FrP gM m σ0 (qX12_one y0)) (σ : S2) (h : Fr gM m σ0 σ) : FrP gM m σ0 (fX12_one_0 qX12_sum qX12_product qX12_one σ) := by
  unfold fX12_one_0
  refine frp_bi (fun r12 => ?_)
  refine frp_if ?_ ?_
  · skip
    refine frp_bi (fun r14 => ?_)
    refine frp_if ?_ ?_
    · skip
      refine frp_if ?_ ?_
      · skip
        refine frp_if ?_ ?_
        · skip
          exact (wfX12_one_136 hm _ _ _ hqX12_sum hqX12_product hqX12_one _ _ h)
        · skip
          refine frp_w (Fr.wI h (tb_of (g := 0) hm rfl)) (fun σ16 h1 => ?_)
          refine frp_w (Fr.wI h1 (tb_of (g := 0) hm rfl)) (fun σ17 h2 => ?_)
          refine frp_bs (hqX12_sum _ h2) (fun r18 σ19 h3 => ?_)
          refine frp_bs (wfX12_eats hm _ _ h3) (fun r21 σ22 h4 => ?_)
          refine frp_w (Fr.wI h4 (tb_of (g := 0) hm rfl)) (fun σ24 h5 => ?_)
          exact frp_s h5
      · skip
        exact (wfX12_one_136 hm _ _ _ hqX12_sum hqX12_product hqX12_one _ _ h)
    · skip
      exact (wfX12_one_29 hm _ _ _ hqX12_sum hqX12_product hqX12_one _ _ _ _ h)
  · skip
    exact frp_s h
theorem weX12_one {m : Nat} {σ0 : S2} (hm : 1 ||| m = m) (qX12_sum : S2 → Option (Int32 × S2)) (qX12_product : S2 → Option (Int32 × S2)) (qX12_one : S2 → Option (Int32 × S2)) (hqX12_sum : ∀ (y0 : S2), Fr gM m σ0 y0 → FrP gM m σ0 (qX12_sum y0)) (hqX12_product : ∀ (y0 : S2), Fr gM m σ0 y0 → FrP gM m σ0 (qX12_product y0)) (hqX12_one : ∀ (y0 : S2), Fr gM m σ0 y0 → FrP gM m σ0 (qX12_one y0)) (σ : S2) (h : Fr gM m σ0 σ) : FrP gM m σ0 (eX12_one qX12_sum qX12_product qX12_one σ) := by
  unfold eX12_one
  exact (wfX12_one_0 hm _ _ _ hqX12_sum hqX12_product hqX12_one _ h)
theorem wGX12_sum {m : Nat} {σ0 : S2} (hm : 1 ||| m = m) : ∀ (d j : Nat) (σ : S2), Fr gM m σ0 σ → FrP gM m σ0 (GX12_sum d j σ) := by
  intro d
  induction d with
  | zero => intro j σ _; exact frp_n
  | succ d ih =>
    intro j σ h
    match j with
    | 0 => exact (weX12_sum hm _ _ _ (ih 0) (ih 1) (ih 2) _ h)
    | 1 => exact (weX12_product hm _ _ _ (ih 0) (ih 1) (ih 2) _ h)
    | j + 2 => exact (weX12_one hm _ _ _ (ih 0) (ih 1) (ih 2) _ h)
theorem wfX12_sum {m : Nat} {σ0 : S2} (hm : 1 ||| m = m) (σ : S2) (h : Fr gM m σ0 σ) : FrP gM m σ0 (fX12_sum σ) := by
  unfold fX12_sum
  exact (wGX12_sum hm _ _ _ h)
theorem wfX12_product {m : Nat} {σ0 : S2} (hm : 1 ||| m = m) (σ : S2) (h : Fr gM m σ0 σ) : FrP gM m σ0 (fX12_product σ) := by
  unfold fX12_product
  exact (wGX12_sum hm _ _ _ h)
theorem wfX12_one {m : Nat} {σ0 : S2} (hm : 1 ||| m = m) (σ : S2) (h : Fr gM m σ0 σ) : FrP gM m σ0 (fX12_one σ) := by
  unfold fX12_one
  exact (wGX12_sum hm _ _ _ h)
theorem wfX12_reads_338 {m : Nat} {σ0 : S2} (hm : 513 ||| m = m) (σ : S2) (h : Fr gM m σ0 σ) : FrP gM m σ0 (fX12_reads_338 σ) := by
  unfold fX12_reads_338
  exact frp_s h
theorem wfX12_reads_311 {m : Nat} {σ0 : S2} (hm : 513 ||| m = m) (k45 : S2 → Int32 → Int32 → Int32 → Option (Int32 × S2)) (hk45 : ∀ (y0 : S2) (y1 : Int32) (y2 : Int32) (y3 : Int32), Fr gM m σ0 y0 → FrP gM m σ0 (k45 y0 y1 y2 y3)) (σ : S2) (x1 : Int32) (x2 : Int32) (x3 : Int32) (s0 : Int32) (s1 : Int32) (h : Fr gM m σ0 σ) : FrP gM m σ0 (fX12_reads_311 k45 σ x1 x2 x3 s0 s1) := by
  unfold fX12_reads_311
  refine frp_w (Fr.wI h (tb_of (g := 0) hm rfl)) (fun σ1 h1 => ?_)
  exact (hk45 _ _ _ _ h1)
theorem wfX12_reads_296 {m : Nat} {σ0 : S2} (hm : 513 ||| m = m) (k45 : S2 → Int32 → Int32 → Int32 → Option (Int32 × S2)) (hk45 : ∀ (y0 : S2) (y1 : Int32) (y2 : Int32) (y3 : Int32), Fr gM m σ0 y0 → FrP gM m σ0 (k45 y0 y1 y2 y3)) (σ : S2) (x1 : Int32) (x2 : Int32) (s0 : Int32) (h : Fr gM m σ0 σ) : FrP gM m σ0 (fX12_reads_296 k45 σ x1 x2 s0) := by
  unfold fX12_reads_296
  refine frp_if ?_ ?_
  · skip
    exact (wfX12_reads_311 hm _ hk45 _ _ _ _ _ _ h)
  · skip
    exact (wfX12_reads_311 hm _ hk45 _ _ _ _ _ _ h)
theorem wfX12_reads_295 {m : Nat} {σ0 : S2} (hm : 513 ||| m = m) (k45 : S2 → Int32 → Int32 → Int32 → Option (Int32 × S2)) (hk45 : ∀ (y0 : S2) (y1 : Int32) (y2 : Int32) (y3 : Int32), Fr gM m σ0 y0 → FrP gM m σ0 (k45 y0 y1 y2 y3)) (σ : S2) (x1 : Int32) (x2 : Int32) (h : Fr gM m σ0 σ) : FrP gM m σ0 (fX12_reads_295 k45 σ x1 x2) := by
  unfold fX12_reads_295
  exact (wfX12_reads_296 hm _ hk45 _ _ _ _ h)
theorem wfX12_reads_275 {m : Nat} {σ0 : S2} (hm : 513 ||| m = m) (k45 : S2 → Int32 → Int32 → Int32 → Option (Int32 × S2)) (hk45 : ∀ (y0 : S2) (y1 : Int32) (y2 : Int32) (y3 : Int32), Fr gM m σ0 y0 → FrP gM m σ0 (k45 y0 y1 y2 y3)) (σ : S2) (x1 : Int32) (x2 : Int32) (h : Fr gM m σ0 σ) : FrP gM m σ0 (fX12_reads_275 k45 σ x1 x2) := by
  unfold fX12_reads_275
  refine frp_if ?_ ?_
  · skip
    refine frp_bi (fun r2 => ?_)
    refine frp_if ?_ ?_
    · skip
      exact (wfX12_reads_296 hm _ hk45 _ _ _ _ h)
    · skip
      exact (wfX12_reads_295 hm _ hk45 _ _ _ h)
  · skip
    exact (wfX12_reads_295 hm _ hk45 _ _ _ h)
theorem wfX12_reads_274 {m : Nat} {σ0 : S2} (hm : 513 ||| m = m) (k45 : S2 → Int32 → Int32 → Int32 → Option (Int32 × S2)) (hk45 : ∀ (y0 : S2) (y1 : Int32) (y2 : Int32) (y3 : Int32), Fr gM m σ0 y0 → FrP gM m σ0 (k45 y0 y1 y2 y3)) (σ : S2) (x1 : Int32) (x2 : Int32) (s0 : Int32) (s1 : Int32) (h : Fr gM m σ0 σ) : FrP gM m σ0 (fX12_reads_274 k45 σ x1 x2 s0 s1) := by
  unfold fX12_reads_274
  refine frp_ck (fun b1 => ?_)
  refine frp_w (Fr.wI h (tb_of (g := 9) hm rfl)) (fun σ4 h2 => ?_)
  exact (wfX12_reads_275 hm _ hk45 _ _ _ h2)
theorem wfX12_reads_251 {m : Nat} {σ0 : S2} (hm : 513 ||| m = m) (k45 : S2 → Int32 → Int32 → Int32 → Option (Int32 × S2)) (hk45 : ∀ (y0 : S2) (y1 : Int32) (y2 : Int32) (y3 : Int32), Fr gM m σ0 y0 → FrP gM m σ0 (k45 y0 y1 y2 y3)) (σ : S2) (x1 : Int32) (x2 : Int32) (x5 : Int32) (x6 : Int32) (s0 : Int32) (s1 : Int32) (h : Fr gM m σ0 σ) : FrP gM m σ0 (fX12_reads_251 k45 σ x1 x2 x5 x6 s0 s1) := by
  unfold fX12_reads_251
  refine frp_ck (fun b1 => ?_)
  refine frp_w (Fr.wI h (tb_of (g := 9) hm rfl)) (fun σ5 h2 => ?_)
  refine frp_if ?_ ?_
  · skip
    exact (wfX12_reads_274 hm _ hk45 _ _ _ _ _ h2)
  · skip
    refine frp_ck (fun b3 => ?_)
    refine frp_nm (fun v6 => ?_)
    exact (wfX12_reads_274 hm _ hk45 _ _ _ _ _ h2)
theorem wfX12_reads_206 {m : Nat} {σ0 : S2} (hm : 513 ||| m = m) (k45 : S2 → Int32 → Int32 → Int32 → Option (Int32 × S2)) (hk45 : ∀ (y0 : S2) (y1 : Int32) (y2 : Int32) (y3 : Int32), Fr gM m σ0 y0 → FrP gM m σ0 (k45 y0 y1 y2 y3)) (σ : S2) (x1 : Int32) (x2 : Int32) (s0 : Int32) (s1 : Int32) (h : Fr gM m σ0 σ) : FrP gM m σ0 (fX12_reads_206 k45 σ x1 x2 s0 s1) := by
  unfold fX12_reads_206
  refine frp_w (Fr.wI h (tb_of (g := 0) hm rfl)) (fun σ7 h1 => ?_)
  exact (wfX12_reads_275 hm _ hk45 _ _ _ h1)
theorem wfX12_reads_188 {m : Nat} {σ0 : S2} (hm : 513 ||| m = m) (k45 : S2 → Int32 → Int32 → Int32 → Option (Int32 × S2)) (hk45 : ∀ (y0 : S2) (y1 : Int32) (y2 : Int32) (y3 : Int32), Fr gM m σ0 y0 → FrP gM m σ0 (k45 y0 y1 y2 y3)) (σ : S2) (x1 : Int32) (x2 : Int32) (s0 : Int32) (s1 : Int32) (h : Fr gM m σ0 σ) : FrP gM m σ0 (fX12_reads_188 k45 σ x1 x2 s0 s1) := by
  unfold fX12_reads_188
  refine frp_ck (fun b1 => ?_)
  refine frp_w (Fr.wI h (tb_of (g := 9) hm rfl)) (fun σ8 h2 => ?_)
  refine frp_if ?_ ?_
  · skip
    exact (wfX12_reads_206 hm _ hk45 _ _ _ _ _ h2)
  · skip
    exact (wfX12_reads_206 hm _ hk45 _ _ _ _ _ h2)
theorem wfX12_reads_162 {m : Nat} {σ0 : S2} (hm : 513 ||| m = m) (k45 : S2 → Int32 → Int32 → Int32 → Option (Int32 × S2)) (hk45 : ∀ (y0 : S2) (y1 : Int32) (y2 : Int32) (y3 : Int32), Fr gM m σ0 y0 → FrP gM m σ0 (k45 y0 y1 y2 y3)) (σ : S2) (x1 : Int32) (x2 : Int32) (s0 : Int32) (h : Fr gM m σ0 σ) : FrP gM m σ0 (fX12_reads_162 k45 σ x1 x2 s0) := by
  unfold fX12_reads_162
  refine frp_zf ?_
  refine frp_w (Fr.wI h (tb_of (g := 0) hm rfl)) (fun σ9 h1 => ?_)
  refine frp_if ?_ ?_
  · skip
    refine frp_bi (fun r11 => ?_)
    exact (wfX12_reads_188 hm _ hk45 _ _ _ _ _ h1)
  · skip
    exact (wfX12_reads_188 hm _ hk45 _ _ _ _ _ h1)
theorem wfX12_reads_157 {m : Nat} {σ0 : S2} (hm : 513 ||| m = m) (k45 : S2 → Int32 → Int32 → Int32 → Option (Int32 × S2)) (hk45 : ∀ (y0 : S2) (y1 : Int32) (y2 : Int32) (y3 : Int32), Fr gM m σ0 y0 → FrP gM m σ0 (k45 y0 y1 y2 y3)) (σ : S2) (x1 : Int32) (x2 : Int32) (h : Fr gM m σ0 σ) : FrP gM m σ0 (fX12_reads_157 k45 σ x1 x2) := by
  unfold fX12_reads_157
  exact (wfX12_reads_162 hm _ hk45 _ _ _ _ h)
theorem wfX12_reads_109 {m : Nat} {σ0 : S2} (hm : 513 ||| m = m) (k45 : S2 → Int32 → Int32 → Int32 → Option (Int32 × S2)) (hk45 : ∀ (y0 : S2) (y1 : Int32) (y2 : Int32) (y3 : Int32), Fr gM m σ0 y0 → FrP gM m σ0 (k45 y0 y1 y2 y3)) (σ : S2) (x1 : Int32) (x2 : Int32) (x4 : Int32) (x5 : Int32) (s0 : Int32) (h : Fr gM m σ0 σ) : FrP gM m σ0 (fX12_reads_109 k45 σ x1 x2 x4 x5 s0) := by
  unfold fX12_reads_109
  refine frp_zf ?_
  refine frp_w (Fr.wI h (tb_of (g := 0) hm rfl)) (fun σ13 h1 => ?_)
  refine frp_nm (fun v15 => ?_)
  refine frp_bs (wfX12_eats (tb_sub (a := 513) rfl hm) _ _ h1) (fun r16 σ17 h2 => ?_)
  refine frp_bs (wfX12_eats (tb_sub (a := 513) rfl hm) _ _ h2) (fun r19 σ20 h3 => ?_)
  refine frp_if ?_ ?_
  · skip
    refine frp_if ?_ ?_
    · skip
      refine frp_bi (fun r28 => ?_)
      refine frp_bi (fun r30 => ?_)
      refine frp_if ?_ ?_
      · skip
        exact (wfX12_reads_157 hm _ hk45 _ _ _ h3)
      · skip
        exact (wfX12_reads_162 hm _ hk45 _ _ _ _ h3)
    · skip
      exact (wfX12_reads_157 hm _ hk45 _ _ _ h3)
  · skip
    refine frp_if ?_ ?_
    · skip
      refine frp_bs (wfX12_sum (tb_sub (a := 513) rfl hm) _ h3) (fun r22 σ23 h4 => ?_)
      refine frp_bi (fun r25 => ?_)
      refine frp_if ?_ ?_
      · skip
        exact (wfX12_reads_251 hm _ hk45 _ _ _ _ _ _ _ h4)
      · skip
        refine frp_ck (fun b5 => ?_)
        refine frp_nm (fun v27 => ?_)
        exact (wfX12_reads_251 hm _ hk45 _ _ _ _ _ _ _ h4)
    · skip
      exact (wfX12_reads_275 hm _ hk45 _ _ _ h3)
theorem wfX12_reads_104 {m : Nat} {σ0 : S2} (hm : 513 ||| m = m) (k45 : S2 → Int32 → Int32 → Int32 → Option (Int32 × S2)) (hk45 : ∀ (y0 : S2) (y1 : Int32) (y2 : Int32) (y3 : Int32), Fr gM m σ0 y0 → FrP gM m σ0 (k45 y0 y1 y2 y3)) (σ : S2) (x1 : Int32) (x2 : Int32) (x4 : Int32) (x5 : Int32) (h : Fr gM m σ0 σ) : FrP gM m σ0 (fX12_reads_104 k45 σ x1 x2 x4 x5) := by
  unfold fX12_reads_104
  exact (wfX12_reads_109 hm _ hk45 _ _ _ _ _ _ h)
theorem wfX12_reads_89 {m : Nat} {σ0 : S2} (hm : 513 ||| m = m) (k45 : S2 → Int32 → Int32 → Int32 → Option (Int32 × S2)) (hk45 : ∀ (y0 : S2) (y1 : Int32) (y2 : Int32) (y3 : Int32), Fr gM m σ0 y0 → FrP gM m σ0 (k45 y0 y1 y2 y3)) (σ : S2) (x1 : Int32) (x2 : Int32) (x4 : Int32) (s0 : Int32) (h : Fr gM m σ0 σ) : FrP gM m σ0 (fX12_reads_89 k45 σ x1 x2 x4 s0) := by
  unfold fX12_reads_89
  refine frp_if ?_ ?_
  · skip
    exact (wfX12_reads_104 hm _ hk45 _ _ _ _ _ h)
  · skip
    refine frp_if ?_ ?_
    · skip
      exact (wfX12_reads_109 hm _ hk45 _ _ _ _ _ _ h)
    · skip
      exact (wfX12_reads_104 hm _ hk45 _ _ _ _ _ h)
theorem wfX12_reads_45 {m : Nat} {σ0 : S2} (hm : 513 ||| m = m) : ∀ (n : Nat) (σ : S2) (x1 : Int32) (x2 : Int32) (x3 : Int32), Fr gM m σ0 σ → FrP gM m σ0 (fX12_reads_45 n σ x1 x2 x3) := by
  intro n
  induction n with
  | zero => intro σ x1 x2 x3 _; exact frp_n
  | succ n ih =>
    intro σ x1 x2 x3 h
    unfold fX12_reads_45
    refine frp_if ?_ ?_
    · skip
      refine frp_if ?_ ?_
      · skip
        refine frp_ck (fun b1 => ?_)
        refine frp_nm (fun v32 => ?_)
        refine frp_if ?_ ?_
        · skip
          exact frp_s h
        · skip
          exact (wfX12_reads_338 hm _ h)
      · skip
        exact (wfX12_reads_338 hm _ h)
    · skip
      refine frp_bi (fun r33 => ?_)
      refine frp_if ?_ ?_
      · skip
        exact (wfX12_reads_89 hm _ ih _ _ _ _ _ h)
      · skip
        refine frp_if ?_ ?_
        · skip
          exact (wfX12_reads_89 hm _ ih _ _ _ _ _ h)
        · skip
          refine frp_if ?_ ?_
          · skip
            exact (wfX12_reads_89 hm _ ih _ _ _ _ _ h)
          · skip
            exact (wfX12_reads_89 hm _ ih _ _ _ _ _ h)
theorem wfX12_reads_0 {m : Nat} {σ0 : S2} (hm : 513 ||| m = m) (σ : S2) (x1 : Int32) (h : Fr gM m σ0 σ) : FrP gM m σ0 (fX12_reads_0 σ x1) := by
  unfold fX12_reads_0
  refine frp_w (Fr.wI h (tb_of (g := 0) hm rfl)) (fun σ35 h1 => ?_)
  refine frp_w (Fr.wI h1 (tb_of (g := 0) hm rfl)) (fun σ36 h2 => ?_)
  refine frp_w (Fr.wI h2 (tb_of (g := 0) hm rfl)) (fun σ37 h3 => ?_)
  refine frp_w (Fr.wI h3 (tb_of (g := 0) hm rfl)) (fun σ38 h4 => ?_)
  refine frp_ck (fun b5 => ?_)
  refine frp_w (Fr.wI h4 (tb_of (g := 9) hm rfl)) (fun σ39 h6 => ?_)
  refine frp_ck (fun b7 => ?_)
  refine frp_w (Fr.wI h6 (tb_of (g := 9) hm rfl)) (fun σ40 h8 => ?_)
  refine frp_ck (fun b9 => ?_)
  refine frp_w (Fr.wI h8 (tb_of (g := 9) hm rfl)) (fun σ41 h10 => ?_)
  exact (wfX12_reads_45 hm _ _ _ _ _ h10)
theorem wfX12_reads {m : Nat} {σ0 : S2} (hm : 513 ||| m = m) (σ : S2) (a1 : Int32) (h : Fr gM m σ0 σ) : FrP gM m σ0 (fX12_reads σ a1) := by
  unfold fX12_reads
  exact (wfX12_reads_0 hm _ _ h)
theorem wfX12_numbers_145 {m : Nat} {σ0 : S2} (hm : 1 ||| m = m) (k24 : S2 → Int32 → Int32 → Int32 → Option (Unit × S2)) (hk24 : ∀ (y0 : S2) (y1 : Int32) (y2 : Int32) (y3 : Int32), Fr gM m σ0 y0 → FrP gM m σ0 (k24 y0 y1 y2 y3)) (σ : S2) (x1 : Int32) (x2 : Int32) (x3 : Int32) (h : Fr gM m σ0 σ) : FrP gM m σ0 (fX12_numbers_145 k24 σ x1 x2 x3) := by
  unfold fX12_numbers_145
  refine frp_nm (fun v1 => ?_)
  exact (hk24 _ _ _ _ h)
theorem wfX12_numbers_142 {m : Nat} {σ0 : S2} (hm : 1 ||| m = m) (k24 : S2 → Int32 → Int32 → Int32 → Option (Unit × S2)) (hk24 : ∀ (y0 : S2) (y1 : Int32) (y2 : Int32) (y3 : Int32), Fr gM m σ0 y0 → FrP gM m σ0 (k24 y0 y1 y2 y3)) (σ : S2) (x1 : Int32) (x2 : Int32) (x3 : Int32) (s0 : Int32) (h : Fr gM m σ0 σ) : FrP gM m σ0 (fX12_numbers_142 k24 σ x1 x2 x3 s0) := by
  unfold fX12_numbers_142
  refine frp_w (Fr.wI h (tb_of (g := 0) hm rfl)) (fun σ2 h1 => ?_)
  exact (wfX12_numbers_145 hm _ hk24 _ _ _ _ h1)
theorem wfX12_numbers_92 {m : Nat} {σ0 : S2} (hm : 1 ||| m = m) (k24 : S2 → Int32 → Int32 → Int32 → Option (Unit × S2)) (hk24 : ∀ (y0 : S2) (y1 : Int32) (y2 : Int32) (y3 : Int32), Fr gM m σ0 y0 → FrP gM m σ0 (k24 y0 y1 y2 y3)) (σ : S2) (x1 : Int32) (x2 : Int32) (x3 : Int32) (x4 : Int32) (s0 : Int32) (s1 : Int32) (h : Fr gM m σ0 σ) : FrP gM m σ0 (fX12_numbers_92 k24 σ x1 x2 x3 x4 s0 s1) := by
  unfold fX12_numbers_92
  refine frp_w (Fr.wI h (tb_of (g := 0) hm rfl)) (fun σ3 h1 => ?_)
  refine frp_ck (fun b2 => ?_)
  refine frp_nm (fun v4 => ?_)
  refine frp_nm (fun v5 => ?_)
  refine frp_w (Fr.wI h1 (tb_of (g := 0) hm rfl)) (fun σ6 h3 => ?_)
  refine frp_if ?_ ?_
  · skip
    exact (wfX12_numbers_142 hm _ hk24 _ _ _ _ _ h3)
  · skip
    exact (wfX12_numbers_142 hm _ hk24 _ _ _ _ _ h3)
theorem wfX12_numbers_24 {m : Nat} {σ0 : S2} (hm : 1 ||| m = m) : ∀ (n : Nat) (σ : S2) (x1 : Int32) (x2 : Int32) (x3 : Int32), Fr gM m σ0 σ → FrP gM m σ0 (fX12_numbers_24 n σ x1 x2 x3) := by
  intro n
  induction n with
  | zero => intro σ x1 x2 x3 _; exact frp_n
  | succ n ih =>
    intro σ x1 x2 x3 h
    unfold fX12_numbers_24
    refine frp_if ?_ ?_
    · skip
      exact frp_s h
    · skip
      refine frp_bi (fun r7 => ?_)
      refine frp_if ?_ ?_
      · skip
        exact (wfX12_numbers_145 hm _ ih _ _ _ _ h)
      · skip
        refine frp_ck (fun b1 => ?_)
        refine frp_nm (fun v9 => ?_)
        refine frp_w (Fr.wI h (tb_of (g := 0) hm rfl)) (fun σ10 h2 => ?_)
        refine frp_ck (fun b3 => ?_)
        refine frp_nm (fun v11 => ?_)
        refine frp_if ?_ ?_
        · skip
          exact (wfX12_numbers_92 hm _ ih _ _ _ _ _ _ _ h2)
        · skip
          exact (wfX12_numbers_92 hm _ ih _ _ _ _ _ _ _ h2)
theorem wfX12_numbers_0 {m : Nat} {σ0 : S2} (hm : 1 ||| m = m) (σ : S2) (x1 : Int32) (h : Fr gM m σ0 σ) : FrP gM m σ0 (fX12_numbers_0 σ x1) := by
  unfold fX12_numbers_0
  refine frp_w (Fr.wI h (tb_of (g := 0) hm rfl)) (fun σ12 h1 => ?_)
  refine frp_w (Fr.wI h1 (tb_of (g := 0) hm rfl)) (fun σ13 h2 => ?_)
  refine frp_w (Fr.wI h2 (tb_of (g := 0) hm rfl)) (fun σ14 h3 => ?_)
  refine frp_w (Fr.wI h3 (tb_of (g := 0) hm rfl)) (fun σ15 h4 => ?_)
  exact (wfX12_numbers_24 hm _ _ _ _ _ h4)
theorem wfX12_numbers {m : Nat} {σ0 : S2} (hm : 1 ||| m = m) (σ : S2) (a1 : Int32) (h : Fr gM m σ0 σ) : FrP gM m σ0 (fX12_numbers σ a1) := by
  unfold fX12_numbers
  exact (wfX12_numbers_0 hm _ _ h)
theorem wfX12_sits_95 {m : Nat} {σ0 : S2} (hm : 512 ||| m = m) (k75 : S2 → Int32 → Int32 → Int32 → Int32 → Option (Unit × S2)) (hk75 : ∀ (y0 : S2) (y1 : Int32) (y2 : Int32) (y3 : Int32) (y4 : Int32), Fr gM m σ0 y0 → FrP gM m σ0 (k75 y0 y1 y2 y3 y4)) : ∀ (n : Nat) (σ : S2) (x1 : Int32) (x2 : Int32) (x3 : Int32) (x4 : Int32) (x5 : Int32), Fr gM m σ0 σ → FrP gM m σ0 (fX12_sits_95 k75 n σ x1 x2 x3 x4 x5) := by
  intro n
  induction n with
  | zero => intro σ x1 x2 x3 x4 x5 _; exact frp_n
  | succ n ih =>
    intro σ x1 x2 x3 x4 x5 h
    unfold fX12_sits_95
    refine frp_ck (fun b1 => ?_)
    refine frp_nm (fun v1 => ?_)
    refine frp_if ?_ ?_
    · skip
      refine frp_ck (fun b2 => ?_)
      refine frp_w (Fr.wI h (tb_of (g := 9) hm rfl)) (fun σ2 h3 => ?_)
      refine frp_ck (fun b4 => ?_)
      refine frp_nm (fun v3 => ?_)
      refine frp_ck (fun b5 => ?_)
      refine frp_w (Fr.wI h3 (tb_of (g := 9) hm rfl)) (fun σ4 h6 => ?_)
      refine frp_nm (fun v5 => ?_)
      exact (hk75 _ _ _ _ _ h6)
    · skip
      refine frp_dz ?_
      refine frp_nm (fun v7 => ?_)
      exact (ih _ _ _ _ _ _ h)
theorem wfX12_sits_75 {m : Nat} {σ0 : S2} (hm : 512 ||| m = m) (k37 : S2 → Int32 → Int32 → Option (Unit × S2)) (hk37 : ∀ (y0 : S2) (y1 : Int32) (y2 : Int32), Fr gM m σ0 y0 → FrP gM m σ0 (k37 y0 y1 y2)) : ∀ (n : Nat) (σ : S2) (x1 : Int32) (x2 : Int32) (x3 : Int32) (x4 : Int32), Fr gM m σ0 σ → FrP gM m σ0 (fX12_sits_75 k37 n σ x1 x2 x3 x4) := by
  intro n
  induction n with
  | zero => intro σ x1 x2 x3 x4 _; exact frp_n
  | succ n ih =>
    intro σ x1 x2 x3 x4 h
    unfold fX12_sits_75
    refine frp_if ?_ ?_
    · skip
      refine frp_nm (fun v8 => ?_)
      exact (hk37 _ _ _ h)
    · skip
      refine frp_ck (fun b1 => ?_)
      refine frp_nm (fun v9 => ?_)
      refine frp_bi (fun r10 => ?_)
      exact (wfX12_sits_95 hm _ ih _ _ _ _ _ _ _ h)
theorem wfX12_sits_71 {m : Nat} {σ0 : S2} (hm : 512 ||| m = m) (k37 : S2 → Int32 → Int32 → Option (Unit × S2)) (hk37 : ∀ (y0 : S2) (y1 : Int32) (y2 : Int32), Fr gM m σ0 y0 → FrP gM m σ0 (k37 y0 y1 y2)) (σ : S2) (x1 : Int32) (x2 : Int32) (s0 : Int32) (h : Fr gM m σ0 σ) : FrP gM m σ0 (fX12_sits_71 k37 σ x1 x2 s0) := by
  unfold fX12_sits_71
  exact (wfX12_sits_75 hm _ hk37 _ _ _ _ _ _ h)
theorem wfX12_sits_37 {m : Nat} {σ0 : S2} (hm : 512 ||| m = m) : ∀ (n : Nat) (σ : S2) (x1 : Int32) (x2 : Int32), Fr gM m σ0 σ → FrP gM m σ0 (fX12_sits_37 n σ x1 x2) := by
  intro n
  induction n with
  | zero => intro σ x1 x2 _; exact frp_n
  | succ n ih =>
    intro σ x1 x2 h
    unfold fX12_sits_37
    refine frp_if ?_ ?_
    · skip
      exact frp_s h
    · skip
      refine frp_bi (fun r12 => ?_)
      refine frp_if ?_ ?_
      · skip
        exact (wfX12_sits_71 hm _ ih _ _ _ _ h)
      · skip
        refine frp_ck (fun b1 => ?_)
        refine frp_nm (fun v14 => ?_)
        exact (wfX12_sits_71 hm _ ih _ _ _ _ h)
theorem wfX12_sits_2 {m : Nat} {σ0 : S2} (hm : 512 ||| m = m) : ∀ (n : Nat) (σ : S2) (x1 : Int32) (x2 : Int32), Fr gM m σ0 σ → FrP gM m σ0 (fX12_sits_2 n σ x1 x2) := by
  intro n
  induction n with
  | zero => intro σ x1 x2 _; exact frp_n
  | succ n ih =>
    intro σ x1 x2 h
    unfold fX12_sits_2
    refine frp_if ?_ ?_
    · skip
      refine frp_ck (fun b1 => ?_)
      refine frp_w (Fr.wI h (tb_of (g := 9) hm rfl)) (fun σ15 h2 => ?_)
      exact (wfX12_sits_37 hm _ _ _ _ h2)
    · skip
      refine frp_ck (fun b3 => ?_)
      refine frp_w (Fr.wI h (tb_of (g := 9) hm rfl)) (fun σ16 h4 => ?_)
      refine frp_nm (fun v17 => ?_)
      exact (ih _ _ _ h4)
theorem wfX12_sits_0 {m : Nat} {σ0 : S2} (hm : 512 ||| m = m) (σ : S2) (x1 : Int32) (h : Fr gM m σ0 σ) : FrP gM m σ0 (fX12_sits_0 σ x1) := by
  unfold fX12_sits_0
  exact (wfX12_sits_2 hm _ _ _ _ h)
theorem wfX12_sits {m : Nat} {σ0 : S2} (hm : 512 ||| m = m) (σ : S2) (a1 : Int32) (h : Fr gM m σ0 σ) : FrP gM m σ0 (fX12_sits σ a1) := by
  unfold fX12_sits
  exact (wfX12_sits_0 hm _ _ h)
theorem wfX12_table_115 {m : Nat} {σ0 : S2} (hm : 16777731 ||| m = m) : ∀ (n : Nat) (σ : S2) (x3 : Int32) (x4 : Int32), Fr gM m σ0 σ → FrP gM m σ0 (fX12_table_115 n σ x3 x4) := by
  intro n
  induction n with
  | zero => intro σ x3 x4 _; exact frp_n
  | succ n ih =>
    intro σ x3 x4 h
    unfold fX12_table_115
    refine frp_if ?_ ?_
    · skip
      refine frp_w (Fr.wI h (tb_of (g := 1) hm rfl)) (fun σ1 h1 => ?_)
      refine frp_bs (wfX12_numbers (tb_sub (a := 16777731) rfl hm) _ _ h1) (fun r2 σ3 h2 => ?_)
      refine frp_bs (wfX12_reads (tb_sub (a := 16777731) rfl hm) _ _ h2) (fun r5 σ6 h3 => ?_)
      refine frp_if ?_ ?_
      · skip
        refine frp_bs (wfX12_sits (tb_sub (a := 16777731) rfl hm) _ _ h3) (fun r8 σ9 h4 => ?_)
        refine frp_w (Fr.wI h4 (tb_of (g := 24) hm rfl)) (fun σ11 h5 => ?_)
        exact frp_s h5
      · skip
        exact frp_s h3
    · skip
      refine frp_ck (fun b6 => ?_)
      refine frp_nm (fun v12 => ?_)
      refine frp_ck (fun b7 => ?_)
      refine frp_w (Fr.wI h (tb_of (g := 9) hm rfl)) (fun σ13 h8 => ?_)
      refine frp_nm (fun v14 => ?_)
      exact (ih _ _ _ h8)
theorem wfX12_table_50 {m : Nat} {σ0 : S2} (hm : 16777731 ||| m = m) : ∀ (n : Nat) (σ : S2) (x3 : Int32) (x4 : Int32), Fr gM m σ0 σ → FrP gM m σ0 (fX12_table_50 n σ x3 x4) := by
  intro n
  induction n with
  | zero => intro σ x3 x4 _; exact frp_n
  | succ n ih =>
    intro σ x3 x4 h
    unfold fX12_table_50
    refine frp_if ?_ ?_
    · skip
      refine frp_ck (fun b1 => ?_)
      refine frp_w (Fr.wI h (tb_of (g := 9) hm rfl)) (fun σ15 h2 => ?_)
      exact (wfX12_table_115 hm _ _ _ _ h2)
    · skip
      refine frp_bi (fun r16 => ?_)
      refine frp_ck (fun b3 => ?_)
      refine frp_w (Fr.wI h (tb_of (g := 9) hm rfl)) (fun σ18 h4 => ?_)
      refine frp_ck (fun b5 => ?_)
      refine frp_nm (fun v19 => ?_)
      refine frp_ck (fun b6 => ?_)
      refine frp_w (Fr.wI h4 (tb_of (g := 9) hm rfl)) (fun σ20 h7 => ?_)
      refine frp_nm (fun v21 => ?_)
      exact (ih _ _ _ h7)
theorem wfX12_table_0 {m : Nat} {σ0 : S2} (hm : 16777731 ||| m = m) (σ : S2) (x1 : Int32) (x2 : Int32) (h : Fr gM m σ0 σ) : FrP gM m σ0 (fX12_table_0 σ x1 x2) := by
  unfold fX12_table_0
  refine frp_if ?_ ?_
  · skip
    exact frp_s h
  · skip
    refine frp_if ?_ ?_
    · skip
      refine frp_if ?_ ?_
      · skip
        exact frp_s h
      · skip
        refine frp_nm (fun v22 => ?_)
        refine frp_ck (fun b1 => ?_)
        refine frp_w (Fr.wI h (tb_of (g := 9) hm rfl)) (fun σ23 h2 => ?_)
        refine frp_ck (fun b3 => ?_)
        refine frp_w (Fr.wI h2 (tb_of (g := 9) hm rfl)) (fun σ24 h4 => ?_)
        exact (wfX12_table_50 hm _ _ _ _ h4)
    · skip
      exact frp_s h
theorem wfX12_table {m : Nat} {σ0 : S2} (hm : 16777731 ||| m = m) (σ : S2) (a1 : Int32) (a2 : Int32) (h : Fr gM m σ0 σ) : FrP gM m σ0 (fX12_table σ a1 a2) := by
  unfold fX12_table
  exact (wfX12_table_0 hm _ _ _ h)
theorem wfX12_pickNext_41 {m : Nat} {σ0 : S2} (hm : 1 ||| m = m) (k3 : S2 → Int32 → Int32 → Int32 → Option (Unit × S2)) (hk3 : ∀ (y0 : S2) (y1 : Int32) (y2 : Int32) (y3 : Int32), Fr gM m σ0 y0 → FrP gM m σ0 (k3 y0 y1 y2 y3)) (σ : S2) (x1 : Int32) (x3 : Int32) (x4 : Int32) (h : Fr gM m σ0 σ) : FrP gM m σ0 (fX12_pickNext_41 k3 σ x1 x3 x4) := by
  unfold fX12_pickNext_41
  refine frp_dz ?_
  refine frp_nm (fun v2 => ?_)
  exact (hk3 _ _ _ _ h)
theorem wfX12_pickNext_3 {m : Nat} {σ0 : S2} (hm : 1 ||| m = m) : ∀ (n : Nat) (σ : S2) (x1 : Int32) (x3 : Int32) (x4 : Int32), Fr gM m σ0 σ → FrP gM m σ0 (fX12_pickNext_3 n σ x1 x3 x4) := by
  intro n
  induction n with
  | zero => intro σ x1 x3 x4 _; exact frp_n
  | succ n ih =>
    intro σ x1 x3 x4 h
    unfold fX12_pickNext_3
    refine frp_ck (fun b1 => ?_)
    refine frp_nm (fun v3 => ?_)
    refine frp_if ?_ ?_
    · skip
      exact (wfX12_pickNext_41 hm _ ih _ _ _ _ h)
    · skip
      refine frp_ck (fun b2 => ?_)
      refine frp_nm (fun v4 => ?_)
      refine frp_if ?_ ?_
      · skip
        exact (wfX12_pickNext_41 hm _ ih _ _ _ _ h)
      · skip
        refine frp_ck (fun b3 => ?_)
        refine frp_nm (fun v5 => ?_)
        refine frp_ck (fun b4 => ?_)
        refine frp_w (Fr.wI h (tb_of (g := 0) hm rfl)) (fun σ6 h5 => ?_)
        refine frp_w (Fr.wI h5 (tb_of (g := 0) hm rfl)) (fun σ7 h6 => ?_)
        exact frp_s h6
theorem wfX12_pickNext_0 {m : Nat} {σ0 : S2} (hm : 1 ||| m = m) (σ : S2) (x1 : Int32) (x2 : Int32) (x3 : Int32) (h : Fr gM m σ0 σ) : FrP gM m σ0 (fX12_pickNext_0 σ x1 x2 x3) := by
  unfold fX12_pickNext_0
  exact (wfX12_pickNext_3 hm _ _ _ _ _ h)
theorem wfX12_pickNext {m : Nat} {σ0 : S2} (hm : 1 ||| m = m) (σ : S2) (a1 : Int32) (a2 : Int32) (a3 : Int32) (h : Fr gM m σ0 σ) : FrP gM m σ0 (fX12_pickNext σ a1 a2 a3) := by
  unfold fX12_pickNext
  exact (wfX12_pickNext_0 hm _ _ _ _ h)
theorem wfX12_pickBest_85 {m : Nat} {σ0 : S2} (hm : 1 ||| m = m) (k9 : S2 → Int32 → Int32 → Int32 → Int32 → Int32 → Int32 → Option (Unit × S2)) (hk9 : ∀ (y0 : S2) (y1 : Int32) (y2 : Int32) (y3 : Int32) (y4 : Int32) (y5 : Int32) (y6 : Int32), Fr gM m σ0 y0 → FrP gM m σ0 (k9 y0 y1 y2 y3 y4 y5 y6)) (σ : S2) (x1 : Int32) (x2 : Int32) (x3 : Int32) (x4 : Int32) (x5 : Int32) (x6 : Int32) (h : Fr gM m σ0 σ) : FrP gM m σ0 (fX12_pickBest_85 k9 σ x1 x2 x3 x4 x5 x6) := by
  unfold fX12_pickBest_85
  refine frp_nm (fun v1 => ?_)
  exact (hk9 _ _ _ _ _ _ _ h)
theorem wfX12_pickBest_77 {m : Nat} {σ0 : S2} (hm : 1 ||| m = m) (k9 : S2 → Int32 → Int32 → Int32 → Int32 → Int32 → Int32 → Option (Unit × S2)) (hk9 : ∀ (y0 : S2) (y1 : Int32) (y2 : Int32) (y3 : Int32) (y4 : Int32) (y5 : Int32) (y6 : Int32), Fr gM m σ0 y0 → FrP gM m σ0 (k9 y0 y1 y2 y3 y4 y5 y6)) (σ : S2) (x1 : Int32) (x2 : Int32) (x3 : Int32) (x6 : Int32) (x7 : Int32) (h : Fr gM m σ0 σ) : FrP gM m σ0 (fX12_pickBest_77 k9 σ x1 x2 x3 x6 x7) := by
  unfold fX12_pickBest_77
  exact (wfX12_pickBest_85 hm _ hk9 _ _ _ _ _ _ _ h)
theorem wfX12_pickBest_9 {m : Nat} {σ0 : S2} (hm : 1 ||| m = m) : ∀ (n : Nat) (σ : S2) (x1 : Int32) (x2 : Int32) (x3 : Int32) (x4 : Int32) (x5 : Int32) (x6 : Int32), Fr gM m σ0 σ → FrP gM m σ0 (fX12_pickBest_9 n σ x1 x2 x3 x4 x5 x6) := by
  intro n
  induction n with
  | zero => intro σ x1 x2 x3 x4 x5 x6 _; exact frp_n
  | succ n ih =>
    intro σ x1 x2 x3 x4 x5 x6 h
    unfold fX12_pickBest_9
    refine frp_if ?_ ?_
    · skip
      refine frp_ck (fun b1 => ?_)
      refine frp_w (Fr.wI h (tb_of (g := 0) hm rfl)) (fun σ2 h2 => ?_)
      refine frp_w (Fr.wI h2 (tb_of (g := 0) hm rfl)) (fun σ3 h3 => ?_)
      exact frp_s h3
    · skip
      refine frp_ck (fun b4 => ?_)
      refine frp_nm (fun v4 => ?_)
      refine frp_bi (fun r5 => ?_)
      refine frp_ck (fun b5 => ?_)
      refine frp_nm (fun v7 => ?_)
      refine frp_nm (fun v8 => ?_)
      refine frp_bi (fun r9 => ?_)
      refine frp_if ?_ ?_
      · skip
        exact (wfX12_pickBest_85 hm _ ih _ _ _ _ _ _ _ h)
      · skip
        refine frp_if ?_ ?_
        · skip
          refine frp_if ?_ ?_
          · skip
            exact (wfX12_pickBest_77 hm _ ih _ _ _ _ _ _ h)
          · skip
            refine frp_if ?_ ?_
            · skip
              exact (wfX12_pickBest_85 hm _ ih _ _ _ _ _ _ _ h)
            · skip
              exact (wfX12_pickBest_77 hm _ ih _ _ _ _ _ _ h)
        · skip
          exact (wfX12_pickBest_85 hm _ ih _ _ _ _ _ _ _ h)
theorem wfX12_pickBest_0 {m : Nat} {σ0 : S2} (hm : 1 ||| m = m) (σ : S2) (x1 : Int32) (x2 : Int32) (x3 : Int32) (h : Fr gM m σ0 σ) : FrP gM m σ0 (fX12_pickBest_0 σ x1 x2 x3) := by
  unfold fX12_pickBest_0
  exact (wfX12_pickBest_9 hm _ _ _ _ _ _ _ _ h)
theorem wfX12_pickBest {m : Nat} {σ0 : S2} (hm : 1 ||| m = m) (σ : S2) (a1 : Int32) (a2 : Int32) (a3 : Int32) (h : Fr gM m σ0 σ) : FrP gM m σ0 (fX12_pickBest σ a1 a2 a3) := by
  unfold fX12_pickBest
  exact (wfX12_pickBest_0 hm _ _ _ _ h)
theorem wfX12_pick_75 {m : Nat} {σ0 : S2} (hm : 1 ||| m = m) (k10 : S2 → Int32 → Int32 → Int32 → Int32 → Option (Unit × S2)) (hk10 : ∀ (y0 : S2) (y1 : Int32) (y2 : Int32) (y3 : Int32) (y4 : Int32), Fr gM m σ0 y0 → FrP gM m σ0 (k10 y0 y1 y2 y3 y4)) (σ : S2) (x1 : Int32) (x2 : Int32) (x3 : Int32) (x4 : Int32) (h : Fr gM m σ0 σ) : FrP gM m σ0 (fX12_pick_75 k10 σ x1 x2 x3 x4) := by
  unfold fX12_pick_75
  refine frp_ck (fun b1 => ?_)
  refine frp_nm (fun v1 => ?_)
  refine frp_nm (fun v2 => ?_)
  exact (hk10 _ _ _ _ _ h)
theorem wfX12_pick_73 {m : Nat} {σ0 : S2} (hm : 1 ||| m = m) (k10 : S2 → Int32 → Int32 → Int32 → Int32 → Option (Unit × S2)) (hk10 : ∀ (y0 : S2) (y1 : Int32) (y2 : Int32) (y3 : Int32) (y4 : Int32), Fr gM m σ0 y0 → FrP gM m σ0 (k10 y0 y1 y2 y3 y4)) (σ : S2) (x1 : Int32) (x2 : Int32) (x3 : Int32) (s0 : Int32) (h : Fr gM m σ0 σ) : FrP gM m σ0 (fX12_pick_73 k10 σ x1 x2 x3 s0) := by
  unfold fX12_pick_73
  exact (wfX12_pick_75 hm _ hk10 _ _ _ _ _ h)
theorem wfX12_pick_10 {m : Nat} {σ0 : S2} (hm : 1 ||| m = m) : ∀ (n : Nat) (σ : S2) (x1 : Int32) (x2 : Int32) (x3 : Int32) (x4 : Int32), Fr gM m σ0 σ → FrP gM m σ0 (fX12_pick_10 n σ x1 x2 x3 x4) := by
  intro n
  induction n with
  | zero => intro σ x1 x2 x3 x4 _; exact frp_n
  | succ n ih =>
    intro σ x1 x2 x3 x4 h
    unfold fX12_pick_10
    refine frp_ck (fun b1 => ?_)
    refine frp_nm (fun v3 => ?_)
    refine frp_if ?_ ?_
    · skip
      exact frp_s h
    · skip
      refine frp_ck (fun b2 => ?_)
      refine frp_nm (fun v4 => ?_)
      refine frp_if ?_ ?_
      · skip
        refine frp_bs (wfX12_pickBest hm _ _ _ _ h) (fun r10 σ11 h3 => ?_)
        exact (wfX12_pick_75 hm _ ih _ _ _ _ _ h3)
      · skip
        refine frp_bs (wfX12_pickNext hm _ _ _ _ h) (fun r5 σ6 h4 => ?_)
        refine frp_ck (fun b5 => ?_)
        refine frp_nm (fun v8 => ?_)
        refine frp_if ?_ ?_
        · skip
          refine frp_dz ?_
          exact (wfX12_pick_73 hm _ ih _ _ _ _ _ h4)
        · skip
          exact (wfX12_pick_73 hm _ ih _ _ _ _ _ h4)
theorem wfX12_pick_0 {m : Nat} {σ0 : S2} (hm : 1 ||| m = m) (σ : S2) (x1 : Int32) (x2 : Int32) (h : Fr gM m σ0 σ) : FrP gM m σ0 (fX12_pick_0 σ x1 x2) := by
  unfold fX12_pick_0
  refine frp_w (Fr.wI h (tb_of (g := 0) hm rfl)) (fun σ13 h1 => ?_)
  exact (wfX12_pick_10 hm _ _ _ _ _ _ h1)
theorem wfX12_pick {m : Nat} {σ0 : S2} (hm : 1 ||| m = m) (σ : S2) (a1 : Int32) (a2 : Int32) (h : Fr gM m σ0 σ) : FrP gM m σ0 (fX12_pick σ a1 a2) := by
  unfold fX12_pick
  exact (wfX12_pick_0 hm _ _ _ h)
theorem wfX12_choose_146 {m : Nat} {σ0 : S2} (hm : 1 ||| m = m) (k21 : S2 → Int32 → Int32 → Int32 → Option (Unit × S2)) (hk21 : ∀ (y0 : S2) (y1 : Int32) (y2 : Int32) (y3 : Int32), Fr gM m σ0 y0 → FrP gM m σ0 (k21 y0 y1 y2 y3)) (σ : S2) (x1 : Int32) (x3 : Int32) (x4 : Int32) (h : Fr gM m σ0 σ) : FrP gM m σ0 (fX12_choose_146 k21 σ x1 x3 x4) := by
  unfold fX12_choose_146
  refine frp_nm (fun v1 => ?_)
  exact (hk21 _ _ _ _ h)
theorem wfX12_choose_142 {m : Nat} {σ0 : S2} (hm : 1 ||| m = m) (k21 : S2 → Int32 → Int32 → Int32 → Option (Unit × S2)) (hk21 : ∀ (y0 : S2) (y1 : Int32) (y2 : Int32) (y3 : Int32), Fr gM m σ0 y0 → FrP gM m σ0 (k21 y0 y1 y2 y3)) (σ : S2) (x1 : Int32) (x3 : Int32) (x4 : Int32) (s0 : Int32) (s1 : Int32) (h : Fr gM m σ0 σ) : FrP gM m σ0 (fX12_choose_142 k21 σ x1 x3 x4 s0 s1) := by
  unfold fX12_choose_142
  refine frp_w (Fr.wI h (tb_of (g := 0) hm rfl)) (fun σ2 h1 => ?_)
  exact (wfX12_choose_146 hm _ hk21 _ _ _ _ h1)
theorem wfX12_choose_141 {m : Nat} {σ0 : S2} (hm : 1 ||| m = m) (k21 : S2 → Int32 → Int32 → Int32 → Option (Unit × S2)) (hk21 : ∀ (y0 : S2) (y1 : Int32) (y2 : Int32) (y3 : Int32), Fr gM m σ0 y0 → FrP gM m σ0 (k21 y0 y1 y2 y3)) (σ : S2) (x1 : Int32) (x3 : Int32) (x4 : Int32) (s0 : Int32) (h : Fr gM m σ0 σ) : FrP gM m σ0 (fX12_choose_141 k21 σ x1 x3 x4 s0) := by
  unfold fX12_choose_141
  exact (wfX12_choose_142 hm _ hk21 _ _ _ _ _ _ h)
theorem wfX12_choose_85 {m : Nat} {σ0 : S2} (hm : 1 ||| m = m) (k21 : S2 → Int32 → Int32 → Int32 → Option (Unit × S2)) (hk21 : ∀ (y0 : S2) (y1 : Int32) (y2 : Int32) (y3 : Int32), Fr gM m σ0 y0 → FrP gM m σ0 (k21 y0 y1 y2 y3)) (σ : S2) (x1 : Int32) (x3 : Int32) (x4 : Int32) (x5 : Int32) (s0 : Int32) (h : Fr gM m σ0 σ) : FrP gM m σ0 (fX12_choose_85 k21 σ x1 x3 x4 x5 s0) := by
  unfold fX12_choose_85
  refine frp_if ?_ ?_
  · skip
    exact (wfX12_choose_146 hm _ hk21 _ _ _ _ h)
  · skip
    refine frp_ck (fun b1 => ?_)
    refine frp_nm (fun v3 => ?_)
    refine frp_ck (fun b2 => ?_)
    refine frp_w (Fr.wI h (tb_of (g := 0) hm rfl)) (fun σ4 h3 => ?_)
    refine frp_w (Fr.wI h3 (tb_of (g := 0) hm rfl)) (fun σ5 h4 => ?_)
    refine frp_if ?_ ?_
    · skip
      refine frp_bi (fun r6 => ?_)
      refine frp_if ?_ ?_
      · skip
        exact (wfX12_choose_142 hm _ hk21 _ _ _ _ _ _ h4)
      · skip
        exact (wfX12_choose_141 hm _ hk21 _ _ _ _ _ h4)
    · skip
      exact (wfX12_choose_141 hm _ hk21 _ _ _ _ _ h4)
theorem wfX12_choose_84 {m : Nat} {σ0 : S2} (hm : 1 ||| m = m) (k21 : S2 → Int32 → Int32 → Int32 → Option (Unit × S2)) (hk21 : ∀ (y0 : S2) (y1 : Int32) (y2 : Int32) (y3 : Int32), Fr gM m σ0 y0 → FrP gM m σ0 (k21 y0 y1 y2 y3)) (σ : S2) (x1 : Int32) (x3 : Int32) (x4 : Int32) (x5 : Int32) (h : Fr gM m σ0 σ) : FrP gM m σ0 (fX12_choose_84 k21 σ x1 x3 x4 x5) := by
  unfold fX12_choose_84
  exact (wfX12_choose_85 hm _ hk21 _ _ _ _ _ _ h)
theorem wfX12_choose_80 {m : Nat} {σ0 : S2} (hm : 1 ||| m = m) (k21 : S2 → Int32 → Int32 → Int32 → Option (Unit × S2)) (hk21 : ∀ (y0 : S2) (y1 : Int32) (y2 : Int32) (y3 : Int32), Fr gM m σ0 y0 → FrP gM m σ0 (k21 y0 y1 y2 y3)) (σ : S2) (x1 : Int32) (x3 : Int32) (x4 : Int32) (x5 : Int32) (h : Fr gM m σ0 σ) : FrP gM m σ0 (fX12_choose_80 k21 σ x1 x3 x4 x5) := by
  unfold fX12_choose_80
  exact (wfX12_choose_85 hm _ hk21 _ _ _ _ _ _ h)
theorem wfX12_choose_21 {m : Nat} {σ0 : S2} (hm : 1 ||| m = m) (k13 : S2 → Int32 → Int32 → Option (Unit × S2)) (hk13 : ∀ (y0 : S2) (y1 : Int32) (y2 : Int32), Fr gM m σ0 y0 → FrP gM m σ0 (k13 y0 y1 y2)) : ∀ (n : Nat) (σ : S2) (x1 : Int32) (x3 : Int32) (x4 : Int32), Fr gM m σ0 σ → FrP gM m σ0 (fX12_choose_21 k13 n σ x1 x3 x4) := by
  intro n
  induction n with
  | zero => intro σ x1 x3 x4 _; exact frp_n
  | succ n ih =>
    intro σ x1 x3 x4 h
    unfold fX12_choose_21
    refine frp_if ?_ ?_
    · skip
      refine frp_nm (fun v8 => ?_)
      exact (hk13 _ _ _ h)
    · skip
      refine frp_bi (fun r9 => ?_)
      refine frp_ck (fun b1 => ?_)
      refine frp_nm (fun v11 => ?_)
      refine frp_if ?_ ?_
      · skip
        exact (wfX12_choose_84 hm _ ih _ _ _ _ _ h)
      · skip
        refine frp_ck (fun b2 => ?_)
        refine frp_nm (fun v12 => ?_)
        refine frp_bi (fun r13 => ?_)
        refine frp_if ?_ ?_
        · skip
          refine frp_if ?_ ?_
          · skip
            exact (wfX12_choose_80 hm _ ih _ _ _ _ _ h)
          · skip
            refine frp_ck (fun b3 => ?_)
            refine frp_nm (fun v15 => ?_)
            refine frp_if ?_ ?_
            · skip
              exact (wfX12_choose_84 hm _ ih _ _ _ _ _ h)
            · skip
              exact (wfX12_choose_80 hm _ ih _ _ _ _ _ h)
        · skip
          exact (wfX12_choose_84 hm _ ih _ _ _ _ _ h)
theorem wfX12_choose_13 {m : Nat} {σ0 : S2} (hm : 1 ||| m = m) : ∀ (n : Nat) (σ : S2) (x1 : Int32) (x3 : Int32), Fr gM m σ0 σ → FrP gM m σ0 (fX12_choose_13 n σ x1 x3) := by
  intro n
  induction n with
  | zero => intro σ x1 x3 _; exact frp_n
  | succ n ih =>
    intro σ x1 x3 h
    unfold fX12_choose_13
    refine frp_if ?_ ?_
    · skip
      exact frp_s h
    · skip
      exact (wfX12_choose_21 hm _ ih _ _ _ _ _ h)
theorem wfX12_choose_0 {m : Nat} {σ0 : S2} (hm : 1 ||| m = m) (σ : S2) (x1 : Int32) (x2 : Int32) (h : Fr gM m σ0 σ) : FrP gM m σ0 (fX12_choose_0 σ x1 x2) := by
  unfold fX12_choose_0
  refine frp_bs (wfX12_pick hm _ _ _ h) (fun r16 σ17 h1 => ?_)
  refine frp_w (Fr.wI h1 (tb_of (g := 0) hm rfl)) (fun σ19 h2 => ?_)
  exact (wfX12_choose_13 hm _ _ _ _ h2)
theorem wfX12_choose {m : Nat} {σ0 : S2} (hm : 1 ||| m = m) (σ : S2) (a1 : Int32) (a2 : Int32) (h : Fr gM m σ0 σ) : FrP gM m σ0 (fX12_choose σ a1 a2) := by
  unfold fX12_choose
  exact (wfX12_choose_0 hm _ _ _ h)
theorem wfX12_chooseName_0 {m : Nat} {σ0 : S2} (hm : 1 ||| m = m) (σ : S2) (x1 : Int32) (x2 : Int32) (h : Fr gM m σ0 σ) : FrP gM m σ0 (fX12_chooseName_0 σ x1 x2) := by
  unfold fX12_chooseName_0
  refine frp_ck (fun b1 => ?_)
  refine frp_nm (fun v1 => ?_)
  refine frp_bi (fun r2 => ?_)
  refine frp_bs (wfX12_choose hm _ _ _ h) (fun r4 σ5 h2 => ?_)
  exact frp_s h2
theorem wfX12_chooseName {m : Nat} {σ0 : S2} (hm : 1 ||| m = m) (σ : S2) (a1 : Int32) (a2 : Int32) (h : Fr gM m σ0 σ) : FrP gM m σ0 (fX12_chooseName σ a1 a2) := by
  unfold fX12_chooseName
  exact (wfX12_chooseName_0 hm _ _ _ h)
theorem wfX12_picked_0 {m : Nat} {σ0 : S2} (hm : 1 ||| m = m) (σ : S2) (x1 : Int32) (x2 : Int32) (x3 : Int32) (h : Fr gM m σ0 σ) : FrP gM m σ0 (fX12_picked_0 σ x1 x2 x3) := by
  unfold fX12_picked_0
  refine frp_bi (fun r1 => ?_)
  refine frp_if ?_ ?_
  · skip
    exact frp_s h
  · skip
    refine frp_bi (fun r3 => ?_)
    refine frp_if ?_ ?_
    · skip
      exact frp_s h
    · skip
      refine frp_bs (wfX12_pick hm _ _ _ h) (fun r5 σ6 h1 => ?_)
      refine frp_bi (fun r8 => ?_)
      refine frp_if ?_ ?_
      · skip
        exact frp_s h1
      · skip
        refine frp_ck (fun b2 => ?_)
        refine frp_nm (fun v10 => ?_)
        exact frp_s h1
theorem wfX12_picked {m : Nat} {σ0 : S2} (hm : 1 ||| m = m) (σ : S2) (a1 : Int32) (a2 : Int32) (a3 : Int32) (h : Fr gM m σ0 σ) : FrP gM m σ0 (fX12_picked σ a1 a2 a3) := by
  unfold fX12_picked
  exact (wfX12_picked_0 hm _ _ _ _ h)
theorem wfX12_keeperOf_0 {m : Nat} {σ0 : S2} (hm : 1 ||| m = m) (σ : S2) (x1 : Int32) (x2 : Int32) (x3 : Int32) (h : Fr gM m σ0 σ) : FrP gM m σ0 (fX12_keeperOf_0 σ x1 x2 x3) := by
  unfold fX12_keeperOf_0
  refine frp_bi (fun r1 => ?_)
  refine frp_if ?_ ?_
  · skip
    exact frp_s h
  · skip
    refine frp_bi (fun r3 => ?_)
    refine frp_if ?_ ?_
    · skip
      exact frp_s h
    · skip
      refine frp_bs (wfX12_chooseName hm _ _ _ h) (fun r5 σ6 h1 => ?_)
      refine frp_if ?_ ?_
      · skip
        exact frp_s h1
      · skip
        refine frp_bi (fun r8 => ?_)
        refine frp_if ?_ ?_
        · skip
          exact frp_s h1
        · skip
          refine frp_ck (fun b2 => ?_)
          refine frp_nm (fun v10 => ?_)
          exact frp_s h1
theorem wfX12_keeperOf {m : Nat} {σ0 : S2} (hm : 1 ||| m = m) (σ : S2) (a1 : Int32) (a2 : Int32) (a3 : Int32) (h : Fr gM m σ0 σ) : FrP gM m σ0 (fX12_keeperOf σ a1 a2 a3) := by
  unfold fX12_keeperOf
  exact (wfX12_keeperOf_0 hm _ _ _ _ h)
theorem wfX12_tooFew_48 {m : Nat} {σ0 : S2} (hm : 1 ||| m = m) (k14 : S2 → Int32 → Int32 → Int32 → Option (Int32 × S2)) (hk14 : ∀ (y0 : S2) (y1 : Int32) (y2 : Int32) (y3 : Int32), Fr gM m σ0 y0 → FrP gM m σ0 (k14 y0 y1 y2 y3)) (σ : S2) (x1 : Int32) (x3 : Int32) (s0 : Int32) (s1 : Int32) (h : Fr gM m σ0 σ) : FrP gM m σ0 (fX12_tooFew_48 k14 σ x1 x3 s0 s1) := by
  unfold fX12_tooFew_48
  refine frp_nm (fun v1 => ?_)
  refine frp_nm (fun v2 => ?_)
  exact (hk14 _ _ _ _ h)
theorem wfX12_tooFew_14 {m : Nat} {σ0 : S2} (hm : 1 ||| m = m) : ∀ (n : Nat) (σ : S2) (x1 : Int32) (x2 : Int32) (x3 : Int32), Fr gM m σ0 σ → FrP gM m σ0 (fX12_tooFew_14 n σ x1 x2 x3) := by
  intro n
  induction n with
  | zero => intro σ x1 x2 x3 _; exact frp_n
  | succ n ih =>
    intro σ x1 x2 x3 h
    unfold fX12_tooFew_14
    refine frp_if ?_ ?_
    · skip
      exact frp_s h
    · skip
      refine frp_bs (wfX12_chooseName hm _ _ _ h) (fun r3 σ4 h1 => ?_)
      refine frp_bi (fun r6 => ?_)
      refine frp_ck (fun b2 => ?_)
      refine frp_nm (fun v8 => ?_)
      refine frp_if ?_ ?_
      · skip
        exact (wfX12_tooFew_48 hm _ ih _ _ _ _ _ h1)
      · skip
        exact (wfX12_tooFew_48 hm _ ih _ _ _ _ _ h1)
theorem wfX12_tooFew_0 {m : Nat} {σ0 : S2} (hm : 1 ||| m = m) (σ : S2) (x1 : Int32) (h : Fr gM m σ0 σ) : FrP gM m σ0 (fX12_tooFew_0 σ x1) := by
  unfold fX12_tooFew_0
  refine frp_bi (fun r9 => ?_)
  refine frp_if ?_ ?_
  · skip
    exact frp_s h
  · skip
    exact (wfX12_tooFew_14 hm _ _ _ _ _ h)
theorem wfX12_tooFew {m : Nat} {σ0 : S2} (hm : 1 ||| m = m) (σ : S2) (a1 : Int32) (h : Fr gM m σ0 σ) : FrP gM m σ0 (fX12_tooFew σ a1) := by
  unfold fX12_tooFew
  exact (wfX12_tooFew_0 hm _ _ h)
theorem wfX12_shareOf_47 {m : Nat} {σ0 : S2} (hm : 1 ||| m = m) (k5 : S2 → Int32 → Int32 → Int32 → Int32 → Option (Int32 × S2)) (hk5 : ∀ (y0 : S2) (y1 : Int32) (y2 : Int32) (y3 : Int32) (y4 : Int32), Fr gM m σ0 y0 → FrP gM m σ0 (k5 y0 y1 y2 y3 y4)) (σ : S2) (x1 : Int32) (x2 : Int32) (x4 : Int32) (s0 : Int32) (s1 : Int32) (h : Fr gM m σ0 σ) : FrP gM m σ0 (fX12_shareOf_47 k5 σ x1 x2 x4 s0 s1) := by
  unfold fX12_shareOf_47
  refine frp_nm (fun v1 => ?_)
  refine frp_nm (fun v2 => ?_)
  exact (hk5 _ _ _ _ _ h)
theorem wfX12_shareOf_5 {m : Nat} {σ0 : S2} (hm : 1 ||| m = m) : ∀ (n : Nat) (σ : S2) (x1 : Int32) (x2 : Int32) (x3 : Int32) (x4 : Int32), Fr gM m σ0 σ → FrP gM m σ0 (fX12_shareOf_5 n σ x1 x2 x3 x4) := by
  intro n
  induction n with
  | zero => intro σ x1 x2 x3 x4 _; exact frp_n
  | succ n ih =>
    intro σ x1 x2 x3 x4 h
    unfold fX12_shareOf_5
    refine frp_if ?_ ?_
    · skip
      exact frp_s h
    · skip
      refine frp_ck (fun b1 => ?_)
      refine frp_nm (fun v3 => ?_)
      refine frp_bi (fun r4 => ?_)
      refine frp_bs (wfX12_pick hm _ _ _ h) (fun r6 σ7 h2 => ?_)
      refine frp_ck (fun b3 => ?_)
      refine frp_nm (fun v9 => ?_)
      refine frp_if ?_ ?_
      · skip
        exact (wfX12_shareOf_47 hm _ ih _ _ _ _ _ _ h2)
      · skip
        exact (wfX12_shareOf_47 hm _ ih _ _ _ _ _ _ h2)
theorem wfX12_shareOf_0 {m : Nat} {σ0 : S2} (hm : 1 ||| m = m) (σ : S2) (x1 : Int32) (x2 : Int32) (h : Fr gM m σ0 σ) : FrP gM m σ0 (fX12_shareOf_0 σ x1 x2) := by
  unfold fX12_shareOf_0
  exact (wfX12_shareOf_5 hm _ _ _ _ _ _ h)
theorem wfX12_shareOf {m : Nat} {σ0 : S2} (hm : 1 ||| m = m) (σ : S2) (a1 : Int32) (a2 : Int32) (h : Fr gM m σ0 σ) : FrP gM m σ0 (fX12_shareOf σ a1 a2) := by
  unfold fX12_shareOf
  exact (wfX12_shareOf_0 hm _ _ _ h)
theorem wfX12_findOdds_23 {m : Nat} {σ0 : S2} (hm : 1 ||| m = m) : ∀ (n : Nat) (σ : S2) (x1 : Int32) (x2 : Int32), Fr gM m σ0 σ → FrP gM m σ0 (fX12_findOdds_23 n σ x1 x2) := by
  intro n
  induction n with
  | zero => intro σ x1 x2 _; exact frp_n
  | succ n ih =>
    intro σ x1 x2 h
    unfold fX12_findOdds_23
    refine frp_if ?_ ?_
    · skip
      exact frp_s h
    · skip
      refine frp_bs (wfX12_pick hm _ _ _ h) (fun r1 σ2 h1 => ?_)
      refine frp_ck (fun b2 => ?_)
      refine frp_nm (fun v4 => ?_)
      refine frp_ck (fun b3 => ?_)
      refine frp_nm (fun v5 => ?_)
      refine frp_ck (fun b4 => ?_)
      refine frp_w (Fr.wI h1 (tb_of (g := 0) hm rfl)) (fun σ6 h5 => ?_)
      refine frp_nm (fun v7 => ?_)
      exact (ih _ _ _ h5)
theorem wfX12_findOdds_2 {m : Nat} {σ0 : S2} (hm : 1 ||| m = m) : ∀ (n : Nat) (σ : S2) (x1 : Int32) (x2 : Int32), Fr gM m σ0 σ → FrP gM m σ0 (fX12_findOdds_2 n σ x1 x2) := by
  intro n
  induction n with
  | zero => intro σ x1 x2 _; exact frp_n
  | succ n ih =>
    intro σ x1 x2 h
    unfold fX12_findOdds_2
    refine frp_if ?_ ?_
    · skip
      exact (wfX12_findOdds_23 hm _ _ _ _ h)
    · skip
      refine frp_ck (fun b1 => ?_)
      refine frp_w (Fr.wI h (tb_of (g := 0) hm rfl)) (fun σ8 h2 => ?_)
      refine frp_nm (fun v9 => ?_)
      exact (ih _ _ _ h2)
theorem wfX12_findOdds_0 {m : Nat} {σ0 : S2} (hm : 1 ||| m = m) (σ : S2) (x1 : Int32) (h : Fr gM m σ0 σ) : FrP gM m σ0 (fX12_findOdds_0 σ x1) := by
  unfold fX12_findOdds_0
  exact (wfX12_findOdds_2 hm _ _ _ _ h)
theorem wfX12_findOdds {m : Nat} {σ0 : S2} (hm : 1 ||| m = m) (σ : S2) (a1 : Int32) (h : Fr gM m σ0 σ) : FrP gM m σ0 (fX12_findOdds σ a1) := by
  unfold fX12_findOdds
  exact (wfX12_findOdds_0 hm _ _ h)
theorem wfX12_share_0 {m : Nat} {σ0 : S2} (hm : 1 ||| m = m) (σ : S2) (x1 : Int32) (x2 : Int32) (x3 : Int32) (h : Fr gM m σ0 σ) : FrP gM m σ0 (fX12_share_0 σ x1 x2 x3) := by
  unfold fX12_share_0
  refine frp_bi (fun r1 => ?_)
  refine frp_if ?_ ?_
  · skip
    exact frp_s h
  · skip
    refine frp_bi (fun r3 => ?_)
    refine frp_if ?_ ?_
    · skip
      exact frp_s h
    · skip
      refine frp_bi (fun r5 => ?_)
      refine frp_if ?_ ?_
      · skip
        exact frp_s h
      · skip
        refine frp_if ?_ ?_
        · skip
          refine frp_bs (wfX12_shareOf hm _ _ _ h) (fun r11 σ12 h1 => ?_)
          exact frp_s h1
        · skip
          refine frp_bs (wfX12_findOdds hm _ _ h) (fun r7 σ8 h2 => ?_)
          refine frp_ck (fun b3 => ?_)
          refine frp_nm (fun v10 => ?_)
          exact frp_s h2
theorem wfX12_share {m : Nat} {σ0 : S2} (hm : 1 ||| m = m) (σ : S2) (a1 : Int32) (a2 : Int32) (a3 : Int32) (h : Fr gM m σ0 σ) : FrP gM m σ0 (fX12_share σ a1 a2 a3) := by
  unfold fX12_share
  exact (wfX12_share_0 hm _ _ _ _ h)
theorem wfX12_even_79 {m : Nat} {σ0 : S2} (hm : 1 ||| m = m) (k14 : S2 → Int32 → Int32 → Int32 → Int32 → Option (Int32 × S2)) (hk14 : ∀ (y0 : S2) (y1 : Int32) (y2 : Int32) (y3 : Int32) (y4 : Int32), Fr gM m σ0 y0 → FrP gM m σ0 (k14 y0 y1 y2 y3 y4)) (σ : S2) (x1 : Int32) (x2 : Int32) (x3 : Int32) (x4 : Int32) (h : Fr gM m σ0 σ) : FrP gM m σ0 (fX12_even_79 k14 σ x1 x2 x3 x4) := by
  unfold fX12_even_79
  refine frp_nm (fun v1 => ?_)
  exact (hk14 _ _ _ _ _ h)
theorem wfX12_even_78 {m : Nat} {σ0 : S2} (hm : 1 ||| m = m) (k14 : S2 → Int32 → Int32 → Int32 → Int32 → Option (Int32 × S2)) (hk14 : ∀ (y0 : S2) (y1 : Int32) (y2 : Int32) (y3 : Int32) (y4 : Int32), Fr gM m σ0 y0 → FrP gM m σ0 (k14 y0 y1 y2 y3 y4)) (σ : S2) (x1 : Int32) (x2 : Int32) (x4 : Int32) (s0 : Int32) (h : Fr gM m σ0 σ) : FrP gM m σ0 (fX12_even_78 k14 σ x1 x2 x4 s0) := by
  unfold fX12_even_78
  exact (wfX12_even_79 hm _ hk14 _ _ _ _ _ h)
theorem wfX12_even_55 {m : Nat} {σ0 : S2} (hm : 1 ||| m = m) (k14 : S2 → Int32 → Int32 → Int32 → Int32 → Option (Int32 × S2)) (hk14 : ∀ (y0 : S2) (y1 : Int32) (y2 : Int32) (y3 : Int32) (y4 : Int32), Fr gM m σ0 y0 → FrP gM m σ0 (k14 y0 y1 y2 y3 y4)) (σ : S2) (x1 : Int32) (x3 : Int32) (x4 : Int32) (s0 : Int32) (h : Fr gM m σ0 σ) : FrP gM m σ0 (fX12_even_55 k14 σ x1 x3 x4 s0) := by
  unfold fX12_even_55
  refine frp_ck (fun b1 => ?_)
  refine frp_nm (fun v2 => ?_)
  refine frp_if ?_ ?_
  · skip
    exact (wfX12_even_78 hm _ hk14 _ _ _ _ _ h)
  · skip
    refine frp_ck (fun b2 => ?_)
    refine frp_nm (fun v3 => ?_)
    exact (wfX12_even_78 hm _ hk14 _ _ _ _ _ h)
theorem wfX12_even_14 {m : Nat} {σ0 : S2} (hm : 1 ||| m = m) : ∀ (n : Nat) (σ : S2) (x1 : Int32) (x2 : Int32) (x3 : Int32) (x4 : Int32), Fr gM m σ0 σ → FrP gM m σ0 (fX12_even_14 n σ x1 x2 x3 x4) := by
  intro n
  induction n with
  | zero => intro σ x1 x2 x3 x4 _; exact frp_n
  | succ n ih =>
    intro σ x1 x2 x3 x4 h
    unfold fX12_even_14
    refine frp_if ?_ ?_
    · skip
      exact frp_s h
    · skip
      refine frp_bi (fun r4 => ?_)
      refine frp_if ?_ ?_
      · skip
        exact (wfX12_even_79 hm _ ih _ _ _ _ _ h)
      · skip
        refine frp_ck (fun b1 => ?_)
        refine frp_nm (fun v6 => ?_)
        refine frp_if ?_ ?_
        · skip
          exact (wfX12_even_55 hm _ ih _ _ _ _ _ h)
        · skip
          refine frp_ck (fun b2 => ?_)
          refine frp_nm (fun v7 => ?_)
          exact (wfX12_even_55 hm _ ih _ _ _ _ _ h)
theorem wfX12_even_0 {m : Nat} {σ0 : S2} (hm : 1 ||| m = m) (σ : S2) (x1 : Int32) (h : Fr gM m σ0 σ) : FrP gM m σ0 (fX12_even_0 σ x1) := by
  unfold fX12_even_0
  refine frp_bs (wfX12_findOdds hm _ _ h) (fun r8 σ9 h1 => ?_)
  exact (wfX12_even_14 hm _ _ _ _ _ _ h1)
theorem wfX12_even {m : Nat} {σ0 : S2} (hm : 1 ||| m = m) (σ : S2) (a1 : Int32) (h : Fr gM m σ0 σ) : FrP gM m σ0 (fX12_even σ a1) := by
  unfold fX12_even
  exact (wfX12_even_0 hm _ _ h)
theorem wfX12_ofTable_0 {m : Nat} {σ0 : S2} (hm : 1 ||| m = m) (σ : S2) (x1 : Int32) (x2 : Int32) (h : Fr gM m σ0 σ) : FrP gM m σ0 (fX12_ofTable_0 σ x1 x2) := by
  unfold fX12_ofTable_0
  refine frp_bi (fun r1 => ?_)
  refine frp_if ?_ ?_
  · skip
    exact frp_s h
  · skip
    refine frp_if ?_ ?_
    · skip
      refine frp_ck (fun b1 => ?_)
      refine frp_nm (fun v4 => ?_)
      exact frp_s h
    · skip
      refine frp_if ?_ ?_
      · skip
        refine frp_ck (fun b2 => ?_)
        refine frp_nm (fun v6 => ?_)
        exact frp_s h
      · skip
        refine frp_if ?_ ?_
        · skip
          refine frp_ck (fun b3 => ?_)
          refine frp_nm (fun v8 => ?_)
          exact frp_s h
        · skip
          refine frp_if ?_ ?_
          · skip
            refine frp_ck (fun b4 => ?_)
            refine frp_nm (fun v10 => ?_)
            exact frp_s h
          · skip
            refine frp_if ?_ ?_
            · skip
              refine frp_ck (fun b5 => ?_)
              refine frp_nm (fun v12 => ?_)
              exact frp_s h
            · skip
              refine frp_if ?_ ?_
              · skip
                refine frp_bs (wfX12_even hm _ _ h) (fun r14 σ15 h6 => ?_)
                exact frp_s h6
              · skip
                exact frp_s h
theorem wfX12_ofTable {m : Nat} {σ0 : S2} (hm : 1 ||| m = m) (σ : S2) (a1 : Int32) (a2 : Int32) (h : Fr gM m σ0 σ) : FrP gM m σ0 (fX12_ofTable σ a1 a2) := by
  unfold fX12_ofTable
  exact (wfX12_ofTable_0 hm _ _ _ h)
theorem wfX12_moves_191 {m : Nat} {σ0 : S2} (hm : 1 ||| m = m) (k117 : S2 → Int32 → Int32 → Int32 → Int32 → Int32 → Int32 → Int32 → Option (Int32 × S2)) (hk117 : ∀ (y0 : S2) (y1 : Int32) (y2 : Int32) (y3 : Int32) (y4 : Int32) (y5 : Int32) (y6 : Int32) (y7 : Int32), Fr gM m σ0 y0 → FrP gM m σ0 (k117 y0 y1 y2 y3 y4 y5 y6 y7)) (σ : S2) (x1 : Int32) (x2 : Int32) (x3 : Int32) (x4 : Int32) (x5 : Int32) (x7 : Int32) (s0 : Int32) (s1 : Int32) (h : Fr gM m σ0 σ) : FrP gM m σ0 (fX12_moves_191 k117 σ x1 x2 x3 x4 x5 x7 s0 s1) := by
  unfold fX12_moves_191
  refine frp_nm (fun v1 => ?_)
  refine frp_nm (fun v2 => ?_)
  exact (hk117 _ _ _ _ _ _ _ _ h)
theorem wfX12_moves_117 {m : Nat} {σ0 : S2} (hm : 1 ||| m = m) : ∀ (n : Nat) (σ : S2) (x1 : Int32) (x2 : Int32) (x3 : Int32) (x4 : Int32) (x5 : Int32) (x6 : Int32) (x7 : Int32), Fr gM m σ0 σ → FrP gM m σ0 (fX12_moves_117 n σ x1 x2 x3 x4 x5 x6 x7) := by
  intro n
  induction n with
  | zero => intro σ x1 x2 x3 x4 x5 x6 x7 _; exact frp_n
  | succ n ih =>
    intro σ x1 x2 x3 x4 x5 x6 x7 h
    unfold fX12_moves_117
    refine frp_if ?_ ?_
    · skip
      refine frp_if ?_ ?_
      · skip
        exact frp_s h
      · skip
        exact frp_s h
    · skip
      refine frp_bs (wfX12_chooseName hm _ _ _ h) (fun r3 σ4 h1 => ?_)
      refine frp_bi (fun r6 => ?_)
      refine frp_bs (wfX12_chooseName hm _ _ _ h1) (fun r8 σ9 h2 => ?_)
      refine frp_bi (fun r11 => ?_)
      refine frp_nm (fun v13 => ?_)
      refine frp_bi (fun r14 => ?_)
      refine frp_nm (fun v16 => ?_)
      refine frp_if ?_ ?_
      · skip
        refine frp_bi (fun r17 => ?_)
        exact (wfX12_moves_191 hm _ ih _ _ _ _ _ _ _ _ _ h2)
      · skip
        exact (wfX12_moves_191 hm _ ih _ _ _ _ _ _ _ _ _ h2)
theorem wfX12_moves_99 {m : Nat} {σ0 : S2} (hm : 1 ||| m = m) (k33 : S2 → Int32 → Int32 → Int32 → Int32 → Int32 → Option (Int32 × S2)) (hk33 : ∀ (y0 : S2) (y1 : Int32) (y2 : Int32) (y3 : Int32) (y4 : Int32) (y5 : Int32), Fr gM m σ0 y0 → FrP gM m σ0 (k33 y0 y1 y2 y3 y4 y5)) (σ : S2) (x1 : Int32) (x2 : Int32) (x3 : Int32) (x5 : Int32) (s0 : Int32) (s1 : Int32) (h : Fr gM m σ0 σ) : FrP gM m σ0 (fX12_moves_99 k33 σ x1 x2 x3 x5 s0 s1) := by
  unfold fX12_moves_99
  refine frp_nm (fun v19 => ?_)
  refine frp_nm (fun v20 => ?_)
  exact (hk33 _ _ _ _ _ _ h)
theorem wfX12_moves_98 {m : Nat} {σ0 : S2} (hm : 1 ||| m = m) (k33 : S2 → Int32 → Int32 → Int32 → Int32 → Int32 → Option (Int32 × S2)) (hk33 : ∀ (y0 : S2) (y1 : Int32) (y2 : Int32) (y3 : Int32) (y4 : Int32) (y5 : Int32), Fr gM m σ0 y0 → FrP gM m σ0 (k33 y0 y1 y2 y3 y4 y5)) (σ : S2) (x1 : Int32) (x2 : Int32) (x3 : Int32) (x5 : Int32) (s0 : Int32) (h : Fr gM m σ0 σ) : FrP gM m σ0 (fX12_moves_98 k33 σ x1 x2 x3 x5 s0) := by
  unfold fX12_moves_98
  exact (wfX12_moves_99 hm _ hk33 _ _ _ _ _ _ _ h)
theorem wfX12_moves_33 {m : Nat} {σ0 : S2} (hm : 1 ||| m = m) : ∀ (n : Nat) (σ : S2) (x1 : Int32) (x2 : Int32) (x3 : Int32) (x4 : Int32) (x5 : Int32), Fr gM m σ0 σ → FrP gM m σ0 (fX12_moves_33 n σ x1 x2 x3 x4 x5) := by
  intro n
  induction n with
  | zero => intro σ x1 x2 x3 x4 x5 _; exact frp_n
  | succ n ih =>
    intro σ x1 x2 x3 x4 x5 h
    unfold fX12_moves_33
    refine frp_if ?_ ?_
    · skip
      exact (wfX12_moves_117 hm _ _ _ _ _ _ _ _ _ h)
    · skip
      refine frp_bi (fun r21 => ?_)
      refine frp_if ?_ ?_
      · skip
        exact (wfX12_moves_98 hm _ ih _ _ _ _ _ _ h)
      · skip
        refine frp_bi (fun r23 => ?_)
        refine frp_if ?_ ?_
        · skip
          exact (wfX12_moves_98 hm _ ih _ _ _ _ _ _ h)
        · skip
          refine frp_ck (fun b1 => ?_)
          refine frp_nm (fun v25 => ?_)
          refine frp_ck (fun b2 => ?_)
          refine frp_nm (fun v26 => ?_)
          refine frp_if ?_ ?_
          · skip
            exact (wfX12_moves_99 hm _ ih _ _ _ _ _ _ _ h)
          · skip
            exact (wfX12_moves_98 hm _ ih _ _ _ _ _ _ h)
theorem wfX12_moves_0 {m : Nat} {σ0 : S2} (hm : 1 ||| m = m) (σ : S2) (x1 : Int32) (x2 : Int32) (x3 : Int32) (h : Fr gM m σ0 σ) : FrP gM m σ0 (fX12_moves_0 σ x1 x2 x3) := by
  unfold fX12_moves_0
  refine frp_bi (fun r27 => ?_)
  refine frp_if ?_ ?_
  · skip
    exact frp_s h
  · skip
    refine frp_bi (fun r29 => ?_)
    refine frp_if ?_ ?_
    · skip
      exact frp_s h
    · skip
      refine frp_bi (fun r31 => ?_)
      refine frp_if ?_ ?_
      · skip
        exact frp_s h
      · skip
        exact (wfX12_moves_33 hm _ _ _ _ _ _ _ h)
theorem wfX12_moves {m : Nat} {σ0 : S2} (hm : 1 ||| m = m) (σ : S2) (a1 : Int32) (a2 : Int32) (a3 : Int32) (h : Fr gM m σ0 σ) : FrP gM m σ0 (fX12_moves σ a1 a2 a3) := by
  unfold fX12_moves
  exact (wfX12_moves_0 hm _ _ _ _ h)
theorem wfX12_knows_0 {m : Nat} {σ0 : S2} (hm : 128 ||| m = m) (σ : S2) (x1 : Int32) (x2 : Int32) (h : Fr gM m σ0 σ) : FrP gM m σ0 (fX12_knows_0 σ x1 x2) := by
  unfold fX12_knows_0
  refine frp_bi (fun r1 => ?_)
  refine frp_if ?_ ?_
  · skip
    exact frp_s h
  · skip
    refine frp_bi (fun r3 => ?_)
    refine frp_if ?_ ?_
    · skip
      exact frp_s h
    · skip
      refine frp_ck (fun b1 => ?_)
      refine frp_nm (fun v5 => ?_)
      refine frp_ck (fun b2 => ?_)
      refine frp_w (Fr.wI h (tb_of (g := 7) hm rfl)) (fun σ6 h3 => ?_)
      exact frp_s h3
theorem wfX12_knows {m : Nat} {σ0 : S2} (hm : 128 ||| m = m) (σ : S2) (a1 : Int32) (a2 : Int32) (h : Fr gM m σ0 σ) : FrP gM m σ0 (fX12_knows σ a1 a2) := by
  unfold fX12_knows
  exact (wfX12_knows_0 hm _ _ _ h)
theorem wfX12_keeps_90 {m : Nat} {σ0 : S2} (hm : 4096 ||| m = m) (k3 : S2 → Int32 → Int32 → Int32 → Int32 → Int32 → Option (Int32 × S2)) (hk3 : ∀ (y0 : S2) (y1 : Int32) (y2 : Int32) (y3 : Int32) (y4 : Int32) (y5 : Int32), Fr gM m σ0 y0 → FrP gM m σ0 (k3 y0 y1 y2 y3 y4 y5)) (σ : S2) (x1 : Int32) (x2 : Int32) (x3 : Int32) (x4 : Int32) (x5 : Int32) (h : Fr gM m σ0 σ) : FrP gM m σ0 (fX12_keeps_90 k3 σ x1 x2 x3 x4 x5) := by
  unfold fX12_keeps_90
  refine frp_nm (fun v1 => ?_)
  exact (hk3 _ _ _ _ _ _ h)
theorem wfX12_keeps_71 {m : Nat} {σ0 : S2} (hm : 4096 ||| m = m) (σ : S2) (x2 : Int32) (x4 : Int32) (x7 : Int32) (h : Fr gM m σ0 σ) : FrP gM m σ0 (fX12_keeps_71 σ x2 x4 x7) := by
  unfold fX12_keeps_71
  refine frp_ck (fun b1 => ?_)
  refine frp_w (Fr.wI h (tb_of (g := 12) hm rfl)) (fun σ2 h2 => ?_)
  refine frp_ck (fun b3 => ?_)
  refine frp_w (Fr.wI h2 (tb_of (g := 12) hm rfl)) (fun σ3 h4 => ?_)
  exact frp_s h4
theorem wfX12_keeps_3 {m : Nat} {σ0 : S2} (hm : 4096 ||| m = m) : ∀ (n : Nat) (σ : S2) (x1 : Int32) (x2 : Int32) (x3 : Int32) (x4 : Int32) (x5 : Int32), Fr gM m σ0 σ → FrP gM m σ0 (fX12_keeps_3 n σ x1 x2 x3 x4 x5) := by
  intro n
  induction n with
  | zero => intro σ x1 x2 x3 x4 x5 _; exact frp_n
  | succ n ih =>
    intro σ x1 x2 x3 x4 x5 h
    unfold fX12_keeps_3
    refine frp_if ?_ ?_
    · skip
      exact frp_s h
    · skip
      refine frp_ck (fun b1 => ?_)
      refine frp_nm (fun v4 => ?_)
      refine frp_nm (fun v5 => ?_)
      refine frp_if ?_ ?_
      · skip
        refine frp_bi (fun r6 => ?_)
        refine frp_if ?_ ?_
        · skip
          exact (wfX12_keeps_90 hm _ ih _ _ _ _ _ _ h)
        · skip
          refine frp_ck (fun b2 => ?_)
          refine frp_nm (fun v8 => ?_)
          refine frp_if ?_ ?_
          · skip
            exact (wfX12_keeps_71 hm _ _ _ _ h)
          · skip
            refine frp_ck (fun b3 => ?_)
            refine frp_nm (fun v9 => ?_)
            refine frp_if ?_ ?_
            · skip
              exact (wfX12_keeps_71 hm _ _ _ _ h)
            · skip
              exact (wfX12_keeps_90 hm _ ih _ _ _ _ _ _ h)
      · skip
        exact (wfX12_keeps_90 hm _ ih _ _ _ _ _ _ h)
theorem wfX12_keeps_0 {m : Nat} {σ0 : S2} (hm : 4096 ||| m = m) (σ : S2) (x1 : Int32) (x2 : Int32) (x3 : Int32) (x4 : Int32) (h : Fr gM m σ0 σ) : FrP gM m σ0 (fX12_keeps_0 σ x1 x2 x3 x4) := by
  unfold fX12_keeps_0
  exact (wfX12_keeps_3 hm _ _ _ _ _ _ _ h)
theorem wfX12_keeps {m : Nat} {σ0 : S2} (hm : 4096 ||| m = m) (σ : S2) (a1 : Int32) (a2 : Int32) (a3 : Int32) (a4 : Int32) (h : Fr gM m σ0 σ) : FrP gM m σ0 (fX12_keeps σ a1 a2 a3 a4) := by
  unfold fX12_keeps
  exact (wfX12_keeps_0 hm _ _ _ _ _ h)
theorem wfX12_write_175 {m : Nat} {σ0 : S2} (hm : 55297 ||| m = m) (k80 : S2 → Int32 → Int32 → Int32 → Int32 → Option (Int32 × S2)) (hk80 : ∀ (y0 : S2) (y1 : Int32) (y2 : Int32) (y3 : Int32) (y4 : Int32), Fr gM m σ0 y0 → FrP gM m σ0 (k80 y0 y1 y2 y3 y4)) (σ : S2) (x2 : Int32) (x3 : Int32) (x4 : Int32) (x5 : Int32) (h : Fr gM m σ0 σ) : FrP gM m σ0 (fX12_write_175 k80 σ x2 x3 x4 x5) := by
  unfold fX12_write_175
  refine frp_nm (fun v1 => ?_)
  exact (hk80 _ _ _ _ _ h)
theorem wfX12_write_80 {m : Nat} {σ0 : S2} (hm : 55297 ||| m = m) : ∀ (n : Nat) (σ : S2) (x2 : Int32) (x3 : Int32) (x4 : Int32) (x5 : Int32), Fr gM m σ0 σ → FrP gM m σ0 (fX12_write_80 n σ x2 x3 x4 x5) := by
  intro n
  induction n with
  | zero => intro σ x2 x3 x4 x5 _; exact frp_n
  | succ n ih =>
    intro σ x2 x3 x4 x5 h
    unfold fX12_write_80
    refine frp_if ?_ ?_
    · skip
      exact frp_s h
    · skip
      refine frp_ck (fun b1 => ?_)
      refine frp_nm (fun v2 => ?_)
      refine frp_ck (fun b2 => ?_)
      refine frp_nm (fun v3 => ?_)
      refine frp_if ?_ ?_
      · skip
        refine frp_ck (fun b3 => ?_)
        refine frp_nm (fun v4 => ?_)
        refine frp_if ?_ ?_
        · skip
          refine frp_ck (fun b4 => ?_)
          refine frp_nm (fun v10 => ?_)
          refine frp_bs (wfX12_keeps (tb_sub (a := 55297) rfl hm) _ _ _ _ _ h) (fun r11 σ12 h5 => ?_)
          refine frp_nm (fun v14 => ?_)
          exact (wfX12_write_175 hm _ ih _ _ _ _ _ h5)
        · skip
          refine frp_bi (fun r5 => ?_)
          refine frp_if ?_ ?_
          · skip
            exact (wfX12_write_175 hm _ ih _ _ _ _ _ h)
          · skip
            refine frp_ck (fun b6 => ?_)
            refine frp_nm (fun v7 => ?_)
            refine frp_ck (fun b7 => ?_)
            refine frp_w (Fr.wI h (tb_of (g := 11) hm rfl)) (fun σ8 h8 => ?_)
            refine frp_nm (fun v9 => ?_)
            exact (wfX12_write_175 hm _ ih _ _ _ _ _ h8)
      · skip
        exact (wfX12_write_175 hm _ ih _ _ _ _ _ h)
theorem wfX12_write_0 {m : Nat} {σ0 : S2} (hm : 55297 ||| m = m) (σ : S2) (x1 : Int32) (x2 : Int32) (h : Fr gM m σ0 σ) : FrP gM m σ0 (fX12_write_0 σ x1 x2) := by
  unfold fX12_write_0
  refine frp_bi (fun r15 => ?_)
  refine frp_if ?_ ?_
  · skip
    exact frp_s h
  · skip
    refine frp_bi (fun r17 => ?_)
    refine frp_if ?_ ?_
    · skip
      exact frp_s h
    · skip
      refine frp_ck (fun b1 => ?_)
      refine frp_nm (fun v19 => ?_)
      refine frp_if ?_ ?_
      · skip
        exact frp_s h
      · skip
        refine frp_bi (fun r20 => ?_)
        refine frp_if ?_ ?_
        · skip
          exact frp_s h
        · skip
          refine frp_ck (fun b2 => ?_)
          refine frp_nm (fun v22 => ?_)
          refine frp_ck (fun b3 => ?_)
          refine frp_w (Fr.wI h (tb_of (g := 14) hm rfl)) (fun σ23 h4 => ?_)
          refine frp_w (Fr.wI h4 (tb_of (g := 15) hm rfl)) (fun σ24 h5 => ?_)
          refine frp_ck (fun b6 => ?_)
          refine frp_nm (fun v25 => ?_)
          refine frp_bs (wfX12_chooseName (tb_sub (a := 55297) rfl hm) _ _ _ h5) (fun r26 σ27 h7 => ?_)
          refine frp_bi (fun r29 => ?_)
          exact (wfX12_write_80 hm _ _ _ _ _ _ h7)
theorem wfX12_write {m : Nat} {σ0 : S2} (hm : 55297 ||| m = m) (σ : S2) (a1 : Int32) (a2 : Int32) (h : Fr gM m σ0 σ) : FrP gM m σ0 (fX12_write σ a1 a2) := by
  unfold fX12_write
  exact (wfX12_write_0 hm _ _ _ h)
theorem wfX12_read_112 {m : Nat} {σ0 : S2} (hm : 1 ||| m = m) (k54 : S2 → Int32 → Int32 → Int32 → Option (Int32 × S2)) (hk54 : ∀ (y0 : S2) (y1 : Int32) (y2 : Int32) (y3 : Int32), Fr gM m σ0 y0 → FrP gM m σ0 (k54 y0 y1 y2 y3)) (σ : S2) (x2 : Int32) (x4 : Int32) (s0 : Int32) (h : Fr gM m σ0 σ) : FrP gM m σ0 (fX12_read_112 k54 σ x2 x4 s0) := by
  unfold fX12_read_112
  refine frp_nm (fun v1 => ?_)
  exact (hk54 _ _ _ _ h)
theorem wfX12_read_98 {m : Nat} {σ0 : S2} (hm : 1 ||| m = m) (k54 : S2 → Int32 → Int32 → Int32 → Option (Int32 × S2)) (hk54 : ∀ (y0 : S2) (y1 : Int32) (y2 : Int32) (y3 : Int32), Fr gM m σ0 y0 → FrP gM m σ0 (k54 y0 y1 y2 y3)) (σ : S2) (x2 : Int32) (x3 : Int32) (x4 : Int32) (s0 : Int32) (h : Fr gM m σ0 σ) : FrP gM m σ0 (fX12_read_98 k54 σ x2 x3 x4 s0) := by
  unfold fX12_read_98
  refine frp_if ?_ ?_
  · skip
    exact (wfX12_read_112 hm _ hk54 _ _ _ _ h)
  · skip
    exact (wfX12_read_112 hm _ hk54 _ _ _ _ h)
theorem wfX12_read_54 {m : Nat} {σ0 : S2} (hm : 1 ||| m = m) : ∀ (n : Nat) (σ : S2) (x2 : Int32) (x3 : Int32) (x4 : Int32), Fr gM m σ0 σ → FrP gM m σ0 (fX12_read_54 n σ x2 x3 x4) := by
  intro n
  induction n with
  | zero => intro σ x2 x3 x4 _; exact frp_n
  | succ n ih =>
    intro σ x2 x3 x4 h
    unfold fX12_read_54
    refine frp_if ?_ ?_
    · skip
      exact frp_s h
    · skip
      refine frp_ck (fun b1 => ?_)
      refine frp_nm (fun v2 => ?_)
      refine frp_bi (fun r3 => ?_)
      refine frp_if ?_ ?_
      · skip
        exact (wfX12_read_98 hm _ ih _ _ _ _ _ h)
      · skip
        refine frp_ck (fun b2 => ?_)
        refine frp_nm (fun v5 => ?_)
        refine frp_ck (fun b3 => ?_)
        refine frp_nm (fun v6 => ?_)
        exact (wfX12_read_98 hm _ ih _ _ _ _ _ h)
theorem wfX12_read_0 {m : Nat} {σ0 : S2} (hm : 1 ||| m = m) (σ : S2) (x1 : Int32) (x2 : Int32) (h : Fr gM m σ0 σ) : FrP gM m σ0 (fX12_read_0 σ x1 x2) := by
  unfold fX12_read_0
  refine frp_bi (fun r7 => ?_)
  refine frp_if ?_ ?_
  · skip
    exact frp_s h
  · skip
    refine frp_bi (fun r9 => ?_)
    refine frp_if ?_ ?_
    · skip
      exact frp_s h
    · skip
      refine frp_ck (fun b1 => ?_)
      refine frp_nm (fun v11 => ?_)
      refine frp_if ?_ ?_
      · skip
        exact frp_s h
      · skip
        refine frp_bi (fun r12 => ?_)
        refine frp_if ?_ ?_
        · skip
          exact frp_s h
        · skip
          refine frp_ck (fun b2 => ?_)
          refine frp_nm (fun v14 => ?_)
          refine frp_bs (wfX12_chooseName hm _ _ _ h) (fun r15 σ16 h3 => ?_)
          exact (wfX12_read_54 hm _ _ _ _ _ h3)
theorem wfX12_read {m : Nat} {σ0 : S2} (hm : 1 ||| m = m) (σ : S2) (a1 : Int32) (a2 : Int32) (h : Fr gM m σ0 σ) : FrP gM m σ0 (fX12_read σ a1 a2) := by
  unfold fX12_read
  exact (wfX12_read_0 hm _ _ _ h)
theorem wfX12_fall_53 {m : Nat} {σ0 : S2} (hm : 6400 ||| m = m) : ∀ (n : Nat) (σ : S2) (x1 : Int32) (x2 : Int32) (x3 : Int32) (x4 : Int32), Fr gM m σ0 σ → FrP gM m σ0 (fX12_fall_53 n σ x1 x2 x3 x4) := by
  intro n
  induction n with
  | zero => intro σ x1 x2 x3 x4 _; exact frp_n
  | succ n ih =>
    intro σ x1 x2 x3 x4 h
    unfold fX12_fall_53
    refine frp_if ?_ ?_
    · skip
      exact frp_s h
    · skip
      refine frp_if ?_ ?_
      · skip
        refine frp_ck (fun b1 => ?_)
        refine frp_w (Fr.wI h (tb_of (g := 11) hm rfl)) (fun σ1 h2 => ?_)
        refine frp_ck (fun b3 => ?_)
        refine frp_w (Fr.wI h2 (tb_of (g := 12) hm rfl)) (fun σ2 h4 => ?_)
        refine frp_ck (fun b5 => ?_)
        refine frp_w (Fr.wI h4 (tb_of (g := 12) hm rfl)) (fun σ3 h6 => ?_)
        refine frp_nm (fun v4 => ?_)
        exact (ih _ _ _ _ _ h6)
      · skip
        exact frp_s h
theorem wfX12_fall_49 {m : Nat} {σ0 : S2} (hm : 6400 ||| m = m) (σ : S2) (x1 : Int32) (x2 : Int32) (x3 : Int32) (s0 : Int32) (s1 : Int32) (h : Fr gM m σ0 σ) : FrP gM m σ0 (fX12_fall_49 σ x1 x2 x3 s0 s1) := by
  unfold fX12_fall_49
  refine frp_ck (fun b1 => ?_)
  refine frp_w (Fr.wI h (tb_of (g := 8) hm rfl)) (fun σ5 h2 => ?_)
  exact (wfX12_fall_53 hm _ _ _ _ _ _ h2)
theorem wfX12_fall_33 {m : Nat} {σ0 : S2} (hm : 6400 ||| m = m) (σ : S2) (x1 : Int32) (x2 : Int32) (s0 : Int32) (h : Fr gM m σ0 σ) : FrP gM m σ0 (fX12_fall_33 σ x1 x2 s0) := by
  unfold fX12_fall_33
  refine frp_if ?_ ?_
  · skip
    exact (wfX12_fall_49 hm _ _ _ _ _ _ h)
  · skip
    exact (wfX12_fall_49 hm _ _ _ _ _ _ h)
theorem wfX12_fall_0 {m : Nat} {σ0 : S2} (hm : 6400 ||| m = m) (σ : S2) (x1 : Int32) (x2 : Int32) (h : Fr gM m σ0 σ) : FrP gM m σ0 (fX12_fall_0 σ x1 x2) := by
  unfold fX12_fall_0
  refine frp_bi (fun r6 => ?_)
  refine frp_if ?_ ?_
  · skip
    exact frp_s h
  · skip
    refine frp_bi (fun r8 => ?_)
    refine frp_if ?_ ?_
    · skip
      exact frp_s h
    · skip
      refine frp_ck (fun b1 => ?_)
      refine frp_nm (fun v10 => ?_)
      refine frp_if ?_ ?_
      · skip
        exact (wfX12_fall_33 hm _ _ _ _ h)
      · skip
        exact (wfX12_fall_33 hm _ _ _ _ h)
theorem wfX12_fall {m : Nat} {σ0 : S2} (hm : 6400 ||| m = m) (σ : S2) (a1 : Int32) (a2 : Int32) (h : Fr gM m σ0 σ) : FrP gM m σ0 (fX12_fall σ a1 a2) := by
  unfold fX12_fall
  exact (wfX12_fall_0 hm _ _ _ h)
theorem wfX12_half_68 {m : Nat} {σ0 : S2} (hm : 10240 ||| m = m) (σ : S2) (x4 : Int32) (h : Fr gM m σ0 σ) : FrP gM m σ0 (fX12_half_68 σ x4) := by
  unfold fX12_half_68
  refine frp_ck (fun b1 => ?_)
  refine frp_w (Fr.wI h (tb_of (g := 13) hm rfl)) (fun σ1 h2 => ?_)
  exact frp_s h2
theorem wfX12_half_194 {m : Nat} {σ0 : S2} (hm : 10240 ||| m = m) (σ : S2) (x4 : Int32) (s0 : Int32) (s1 : Int32) (h : Fr gM m σ0 σ) : FrP gM m σ0 (fX12_half_194 σ x4 s0 s1) := by
  unfold fX12_half_194
  refine frp_ck (fun b1 => ?_)
  refine frp_w (Fr.wI h (tb_of (g := 11) hm rfl)) (fun σ2 h2 => ?_)
  refine frp_ck (fun b3 => ?_)
  refine frp_w (Fr.wI h2 (tb_of (g := 11) hm rfl)) (fun σ3 h4 => ?_)
  refine frp_ck (fun b5 => ?_)
  refine frp_w (Fr.wI h4 (tb_of (g := 13) hm rfl)) (fun σ4 h6 => ?_)
  exact frp_s h6
theorem wfX12_half_118 {m : Nat} {σ0 : S2} (hm : 10240 ||| m = m) (σ : S2) (x1 : Int32) (x3 : Int32) (x4 : Int32) (s0 : Int32) (s1 : Int32) (h : Fr gM m σ0 σ) : FrP gM m σ0 (fX12_half_118 σ x1 x3 x4 s0 s1) := by
  unfold fX12_half_118
  refine frp_ck (fun b1 => ?_)
  refine frp_w (Fr.wI h (tb_of (g := 13) hm rfl)) (fun σ5 h2 => ?_)
  refine frp_ck (fun b3 => ?_)
  refine frp_w (Fr.wI h2 (tb_of (g := 13) hm rfl)) (fun σ6 h4 => ?_)
  refine frp_ck (fun b5 => ?_)
  refine frp_nm (fun v7 => ?_)
  refine frp_if ?_ ?_
  · skip
    refine frp_nm (fun v8 => ?_)
    refine frp_ck (fun b6 => ?_)
    refine frp_nm (fun v9 => ?_)
    refine frp_ck (fun b7 => ?_)
    refine frp_nm (fun v10 => ?_)
    refine frp_if ?_ ?_
    · skip
      refine frp_ck (fun b8 => ?_)
      refine frp_nm (fun v11 => ?_)
      exact (wfX12_half_194 hm _ _ _ _ h4)
    · skip
      refine frp_ck (fun b9 => ?_)
      refine frp_nm (fun v12 => ?_)
      exact (wfX12_half_194 hm _ _ _ _ h4)
  · skip
    refine frp_ck (fun b10 => ?_)
    refine frp_nm (fun v13 => ?_)
    exact frp_s h4
theorem wfX12_half_117 {m : Nat} {σ0 : S2} (hm : 10240 ||| m = m) (σ : S2) (x1 : Int32) (x3 : Int32) (x4 : Int32) (s0 : Int32) (h : Fr gM m σ0 σ) : FrP gM m σ0 (fX12_half_117 σ x1 x3 x4 s0) := by
  unfold fX12_half_117
  exact (wfX12_half_118 hm _ _ _ _ _ _ h)
theorem wfX12_half_0 {m : Nat} {σ0 : S2} (hm : 10240 ||| m = m) (σ : S2) (x1 : Int32) (x2 : Int32) (x3 : Int32) (h : Fr gM m σ0 σ) : FrP gM m σ0 (fX12_half_0 σ x1 x2 x3) := by
  unfold fX12_half_0
  refine frp_bi (fun r14 => ?_)
  refine frp_if ?_ ?_
  · skip
    exact frp_s h
  · skip
    refine frp_bi (fun r16 => ?_)
    refine frp_if ?_ ?_
    · skip
      exact frp_s h
    · skip
      refine frp_bi (fun r18 => ?_)
      refine frp_if ?_ ?_
      · skip
        exact frp_s h
      · skip
        refine frp_if ?_ ?_
        · skip
          exact frp_s h
        · skip
          refine frp_nm (fun v20 => ?_)
          refine frp_ck (fun b1 => ?_)
          refine frp_nm (fun v21 => ?_)
          refine frp_if ?_ ?_
          · skip
            exact frp_s h
          · skip
            refine frp_bi (fun r22 => ?_)
            refine frp_if ?_ ?_
            · skip
              exact (wfX12_half_68 hm _ _ h)
            · skip
              refine frp_bi (fun r24 => ?_)
              refine frp_if ?_ ?_
              · skip
                exact (wfX12_half_68 hm _ _ h)
              · skip
                refine frp_ck (fun b2 => ?_)
                refine frp_nm (fun v26 => ?_)
                refine frp_if ?_ ?_
                · skip
                  exact (wfX12_half_117 hm _ _ _ _ _ h)
                · skip
                  refine frp_ck (fun b3 => ?_)
                  refine frp_nm (fun v27 => ?_)
                  refine frp_if ?_ ?_
                  · skip
                    refine frp_ck (fun b4 => ?_)
                    refine frp_nm (fun v28 => ?_)
                    exact (wfX12_half_118 hm _ _ _ _ _ _ h)
                  · skip
                    exact (wfX12_half_117 hm _ _ _ _ _ h)
theorem wfX12_half {m : Nat} {σ0 : S2} (hm : 10240 ||| m = m) (σ : S2) (a1 : Int32) (a2 : Int32) (a3 : Int32) (h : Fr gM m σ0 σ) : FrP gM m σ0 (fX12_half σ a1 a2 a3) := by
  unfold fX12_half
  exact (wfX12_half_0 hm _ _ _ _ h)
theorem wfX12_mend_174 {m : Nat} {σ0 : S2} (hm : 2049 ||| m = m) (k98 : S2 → Int32 → Int32 → Int32 → Int32 → Int32 → Option (Int32 × S2)) (hk98 : ∀ (y0 : S2) (y1 : Int32) (y2 : Int32) (y3 : Int32) (y4 : Int32) (y5 : Int32), Fr gM m σ0 y0 → FrP gM m σ0 (k98 y0 y1 y2 y3 y4 y5)) (σ : S2) (x1 : Int32) (x2 : Int32) (x3 : Int32) (x4 : Int32) (x5 : Int32) (h : Fr gM m σ0 σ) : FrP gM m σ0 (fX12_mend_174 k98 σ x1 x2 x3 x4 x5) := by
  unfold fX12_mend_174
  refine frp_nm (fun v1 => ?_)
  exact (hk98 _ _ _ _ _ _ h)
theorem wfX12_mend_98 {m : Nat} {σ0 : S2} (hm : 2049 ||| m = m) (k14 : S2 → Int32 → Int32 → Int32 → Option (Int32 × S2)) (hk14 : ∀ (y0 : S2) (y1 : Int32) (y2 : Int32) (y3 : Int32), Fr gM m σ0 y0 → FrP gM m σ0 (k14 y0 y1 y2 y3)) : ∀ (n : Nat) (σ : S2) (x1 : Int32) (x2 : Int32) (x3 : Int32) (x4 : Int32) (x5 : Int32), Fr gM m σ0 σ → FrP gM m σ0 (fX12_mend_98 k14 n σ x1 x2 x3 x4 x5) := by
  intro n
  induction n with
  | zero => intro σ x1 x2 x3 x4 x5 _; exact frp_n
  | succ n ih =>
    intro σ x1 x2 x3 x4 x5 h
    unfold fX12_mend_98
    refine frp_if ?_ ?_
    · skip
      refine frp_nm (fun v2 => ?_)
      exact (hk14 _ _ _ _ h)
    · skip
      refine frp_ck (fun b1 => ?_)
      refine frp_nm (fun v3 => ?_)
      refine frp_nm (fun v4 => ?_)
      refine frp_ck (fun b2 => ?_)
      refine frp_nm (fun v5 => ?_)
      refine frp_bi (fun r6 => ?_)
      refine frp_if ?_ ?_
      · skip
        exact (wfX12_mend_174 hm _ ih _ _ _ _ _ _ h)
      · skip
        refine frp_ck (fun b3 => ?_)
        refine frp_nm (fun v8 => ?_)
        refine frp_if ?_ ?_
        · skip
          exact (wfX12_mend_174 hm _ ih _ _ _ _ _ _ h)
        · skip
          refine frp_ck (fun b4 => ?_)
          refine frp_nm (fun v9 => ?_)
          refine frp_bi (fun r10 => ?_)
          refine frp_if ?_ ?_
          · skip
            exact (wfX12_mend_174 hm _ ih _ _ _ _ _ _ h)
          · skip
            refine frp_ck (fun b5 => ?_)
            refine frp_w (Fr.wI h (tb_of (g := 11) hm rfl)) (fun σ12 h6 => ?_)
            refine frp_nm (fun v13 => ?_)
            exact (wfX12_mend_174 hm _ ih _ _ _ _ _ _ h6)
theorem wfX12_mend_81 {m : Nat} {σ0 : S2} (hm : 2049 ||| m = m) (k28 : S2 → Int32 → Int32 → Int32 → Int32 → Int32 → Option (Int32 × S2)) (hk28 : ∀ (y0 : S2) (y1 : Int32) (y2 : Int32) (y3 : Int32) (y4 : Int32) (y5 : Int32), Fr gM m σ0 y0 → FrP gM m σ0 (k28 y0 y1 y2 y3 y4 y5)) (σ : S2) (x1 : Int32) (x2 : Int32) (x3 : Int32) (x5 : Int32) (s0 : Int32) (h : Fr gM m σ0 σ) : FrP gM m σ0 (fX12_mend_81 k28 σ x1 x2 x3 x5 s0) := by
  unfold fX12_mend_81
  refine frp_nm (fun v14 => ?_)
  exact (hk28 _ _ _ _ _ _ h)
theorem wfX12_mend_79 {m : Nat} {σ0 : S2} (hm : 2049 ||| m = m) (k28 : S2 → Int32 → Int32 → Int32 → Int32 → Int32 → Option (Int32 × S2)) (hk28 : ∀ (y0 : S2) (y1 : Int32) (y2 : Int32) (y3 : Int32) (y4 : Int32) (y5 : Int32), Fr gM m σ0 y0 → FrP gM m σ0 (k28 y0 y1 y2 y3 y4 y5)) (σ : S2) (x1 : Int32) (x2 : Int32) (x3 : Int32) (x4 : Int32) (x5 : Int32) (h : Fr gM m σ0 σ) : FrP gM m σ0 (fX12_mend_79 k28 σ x1 x2 x3 x4 x5) := by
  unfold fX12_mend_79
  exact (wfX12_mend_81 hm _ hk28 _ _ _ _ _ _ h)
theorem wfX12_mend_28 {m : Nat} {σ0 : S2} (hm : 2049 ||| m = m) (k14 : S2 → Int32 → Int32 → Int32 → Option (Int32 × S2)) (hk14 : ∀ (y0 : S2) (y1 : Int32) (y2 : Int32) (y3 : Int32), Fr gM m σ0 y0 → FrP gM m σ0 (k14 y0 y1 y2 y3)) : ∀ (n : Nat) (σ : S2) (x1 : Int32) (x2 : Int32) (x3 : Int32) (x4 : Int32) (x5 : Int32), Fr gM m σ0 σ → FrP gM m σ0 (fX12_mend_28 k14 n σ x1 x2 x3 x4 x5) := by
  intro n
  induction n with
  | zero => intro σ x1 x2 x3 x4 x5 _; exact frp_n
  | succ n ih =>
    intro σ x1 x2 x3 x4 x5 h
    unfold fX12_mend_28
    refine frp_if ?_ ?_
    · skip
      refine frp_bs (wfX12_chooseName (tb_sub (a := 2049) rfl hm) _ _ _ h) (fun r15 σ16 h1 => ?_)
      exact (wfX12_mend_98 hm _ hk14 _ _ _ _ _ _ _ h1)
    · skip
      refine frp_ck (fun b2 => ?_)
      refine frp_nm (fun v18 => ?_)
      refine frp_if ?_ ?_
      · skip
        refine frp_ck (fun b3 => ?_)
        refine frp_nm (fun v19 => ?_)
        refine frp_if ?_ ?_
        · skip
          exact (wfX12_mend_79 hm _ ih _ _ _ _ _ _ h)
        · skip
          refine frp_ck (fun b4 => ?_)
          refine frp_nm (fun v20 => ?_)
          exact (wfX12_mend_81 hm _ ih _ _ _ _ _ _ h)
      · skip
        exact (wfX12_mend_79 hm _ ih _ _ _ _ _ _ h)
theorem wfX12_mend_14 {m : Nat} {σ0 : S2} (hm : 2049 ||| m = m) : ∀ (n : Nat) (σ : S2) (x1 : Int32) (x2 : Int32) (x3 : Int32), Fr gM m σ0 σ → FrP gM m σ0 (fX12_mend_14 n σ x1 x2 x3) := by
  intro n
  induction n with
  | zero => intro σ x1 x2 x3 _; exact frp_n
  | succ n ih =>
    intro σ x1 x2 x3 h
    unfold fX12_mend_14
    refine frp_if ?_ ?_
    · skip
      exact frp_s h
    · skip
      exact (wfX12_mend_28 hm _ ih _ _ _ _ _ _ _ h)
theorem wfX12_mend_0 {m : Nat} {σ0 : S2} (hm : 2049 ||| m = m) (σ : S2) (x1 : Int32) (h : Fr gM m σ0 σ) : FrP gM m σ0 (fX12_mend_0 σ x1) := by
  unfold fX12_mend_0
  refine frp_bi (fun r21 => ?_)
  refine frp_if ?_ ?_
  · skip
    exact frp_s h
  · skip
    exact (wfX12_mend_14 hm _ _ _ _ _ h)
theorem wfX12_mend {m : Nat} {σ0 : S2} (hm : 2049 ||| m = m) (σ : S2) (a1 : Int32) (h : Fr gM m σ0 σ) : FrP gM m σ0 (fX12_mend σ a1) := by
  unfold fX12_mend
  exact (wfX12_mend_0 hm _ _ h)
theorem wfX12_comes_0 {m : Nat} {σ0 : S2} (hm : 65536 ||| m = m) (σ : S2) (x1 : Int32) (h : Fr gM m σ0 σ) : FrP gM m σ0 (fX12_comes_0 σ x1) := by
  unfold fX12_comes_0
  refine frp_bi (fun r1 => ?_)
  refine frp_if ?_ ?_
  · skip
    exact frp_s h
  · skip
    refine frp_bi (fun r3 => ?_)
    refine frp_if ?_ ?_
    · skip
      refine frp_if ?_ ?_
      · skip
        exact frp_s h
      · skip
        refine frp_ck (fun b1 => ?_)
        refine frp_w (Fr.wI h (tb_of (g := 16) hm rfl)) (fun σ5 h2 => ?_)
        refine frp_w (Fr.wI h2 (tb_of (g := 16) hm rfl)) (fun σ6 h3 => ?_)
        exact frp_s h3
    · skip
      exact frp_s h
theorem wfX12_comes {m : Nat} {σ0 : S2} (hm : 65536 ||| m = m) (σ : S2) (a1 : Int32) (h : Fr gM m σ0 σ) : FrP gM m σ0 (fX12_comes σ a1) := by
  unfold fX12_comes
  exact (wfX12_comes_0 hm _ _ h)
theorem wfX12_tries_162 {m : Nat} {σ0 : S2} (hm : 513 ||| m = m) (k71 : S2 → Int32 → Int32 → Option (Unit × S2)) (hk71 : ∀ (y0 : S2) (y1 : Int32) (y2 : Int32), Fr gM m σ0 y0 → FrP gM m σ0 (k71 y0 y1 y2)) (σ : S2) (x1 : Int32) (x4 : Int32) (s0 : Int32) (s1 : Int32) (h : Fr gM m σ0 σ) : FrP gM m σ0 (fX12_tries_162 k71 σ x1 x4 s0 s1) := by
  unfold fX12_tries_162
  refine frp_ck (fun b1 => ?_)
  refine frp_w (Fr.wI h (tb_of (g := 9) hm rfl)) (fun σ1 h2 => ?_)
  refine frp_nm (fun v2 => ?_)
  exact (hk71 _ _ _ h2)
theorem wfX12_tries_120 {m : Nat} {σ0 : S2} (hm : 513 ||| m = m) (k71 : S2 → Int32 → Int32 → Option (Unit × S2)) (hk71 : ∀ (y0 : S2) (y1 : Int32) (y2 : Int32), Fr gM m σ0 y0 → FrP gM m σ0 (k71 y0 y1 y2)) (σ : S2) (x1 : Int32) (x4 : Int32) (s0 : Int32) (s1 : Int32) (h : Fr gM m σ0 σ) : FrP gM m σ0 (fX12_tries_120 k71 σ x1 x4 s0 s1) := by
  unfold fX12_tries_120
  refine frp_ck (fun b1 => ?_)
  refine frp_w (Fr.wI h (tb_of (g := 9) hm rfl)) (fun σ3 h2 => ?_)
  refine frp_bi (fun r4 => ?_)
  refine frp_if ?_ ?_
  · skip
    refine frp_ck (fun b3 => ?_)
    refine frp_nm (fun v6 => ?_)
    exact (wfX12_tries_162 hm _ hk71 _ _ _ _ _ h2)
  · skip
    refine frp_ck (fun b4 => ?_)
    refine frp_nm (fun v7 => ?_)
    exact (wfX12_tries_162 hm _ hk71 _ _ _ _ _ h2)
theorem wfX12_tries_71 {m : Nat} {σ0 : S2} (hm : 513 ||| m = m) : ∀ (n : Nat) (σ : S2) (x1 : Int32) (x4 : Int32), Fr gM m σ0 σ → FrP gM m σ0 (fX12_tries_71 n σ x1 x4) := by
  intro n
  induction n with
  | zero => intro σ x1 x4 _; exact frp_n
  | succ n ih =>
    intro σ x1 x4 h
    unfold fX12_tries_71
    refine frp_if ?_ ?_
    · skip
      refine frp_bs (wfX12_numbers (tb_sub (a := 513) rfl hm) _ _ h) (fun r8 σ9 h1 => ?_)
      refine frp_bs (wfX12_reads hm _ _ h1) (fun r11 σ12 h2 => ?_)
      refine frp_bs (wfX12_sits (tb_sub (a := 513) rfl hm) _ _ h2) (fun r14 σ15 h3 => ?_)
      exact frp_s h3
    · skip
      refine frp_bi (fun r17 => ?_)
      refine frp_if ?_ ?_
      · skip
        refine frp_bi (fun r19 => ?_)
        exact (wfX12_tries_120 hm _ ih _ _ _ _ _ h)
      · skip
        refine frp_ck (fun b4 => ?_)
        refine frp_nm (fun v21 => ?_)
        exact (wfX12_tries_120 hm _ ih _ _ _ _ _ h)
theorem wfX12_tries_32 {m : Nat} {σ0 : S2} (hm : 513 ||| m = m) : ∀ (n : Nat) (σ : S2) (x1 : Int32) (x4 : Int32), Fr gM m σ0 σ → FrP gM m σ0 (fX12_tries_32 n σ x1 x4) := by
  intro n
  induction n with
  | zero => intro σ x1 x4 _; exact frp_n
  | succ n ih =>
    intro σ x1 x4 h
    unfold fX12_tries_32
    refine frp_if ?_ ?_
    · skip
      exact (wfX12_tries_71 hm _ _ _ _ h)
    · skip
      refine frp_ck (fun b1 => ?_)
      refine frp_nm (fun v22 => ?_)
      refine frp_ck (fun b2 => ?_)
      refine frp_w (Fr.wI h (tb_of (g := 9) hm rfl)) (fun σ23 h3 => ?_)
      refine frp_nm (fun v24 => ?_)
      exact (ih _ _ _ h3)
theorem wfX12_tries_0 {m : Nat} {σ0 : S2} (hm : 513 ||| m = m) (σ : S2) (x1 : Int32) (x2 : Int32) (x3 : Int32) (h : Fr gM m σ0 σ) : FrP gM m σ0 (fX12_tries_0 σ x1 x2 x3) := by
  unfold fX12_tries_0
  refine frp_ck (fun b1 => ?_)
  refine frp_w (Fr.wI h (tb_of (g := 9) hm rfl)) (fun σ25 h2 => ?_)
  refine frp_ck (fun b3 => ?_)
  refine frp_w (Fr.wI h2 (tb_of (g := 9) hm rfl)) (fun σ26 h4 => ?_)
  refine frp_ck (fun b5 => ?_)
  refine frp_nm (fun v27 => ?_)
  refine frp_ck (fun b6 => ?_)
  refine frp_w (Fr.wI h4 (tb_of (g := 9) hm rfl)) (fun σ28 h7 => ?_)
  exact (wfX12_tries_32 hm _ _ _ _ h7)
theorem wfX12_tries {m : Nat} {σ0 : S2} (hm : 513 ||| m = m) (σ : S2) (a1 : Int32) (a2 : Int32) (a3 : Int32) (h : Fr gM m σ0 σ) : FrP gM m σ0 (fX12_tries σ a1 a2 a3) := by
  unfold fX12_tries
  exact (wfX12_tries_0 hm _ _ _ _ h)
theorem wfX12_nextOrder_108 {m : Nat} {σ0 : S2} (hm : 1 ||| m = m) : ∀ (n : Nat) (σ : S2) (x5 : Int32) (x6 : Int32), Fr gM m σ0 σ → FrP gM m σ0 (fX12_nextOrder_108 n σ x5 x6) := by
  intro n
  induction n with
  | zero => intro σ x5 x6 _; exact frp_n
  | succ n ih =>
    intro σ x5 x6 h
    unfold fX12_nextOrder_108
    refine frp_if ?_ ?_
    · skip
      exact frp_s h
    · skip
      refine frp_ck (fun b1 => ?_)
      refine frp_nm (fun v1 => ?_)
      refine frp_ck (fun b2 => ?_)
      refine frp_nm (fun v2 => ?_)
      refine frp_ck (fun b3 => ?_)
      refine frp_w (Fr.wI h (tb_of (g := 0) hm rfl)) (fun σ3 h4 => ?_)
      refine frp_ck (fun b5 => ?_)
      refine frp_w (Fr.wI h4 (tb_of (g := 0) hm rfl)) (fun σ4 h6 => ?_)
      refine frp_nm (fun v5 => ?_)
      refine frp_nm (fun v6 => ?_)
      exact (ih _ _ _ h6)
theorem wfX12_nextOrder_49 {m : Nat} {σ0 : S2} (hm : 1 ||| m = m) : ∀ (n : Nat) (σ : S2) (x1 : Int32) (x2 : Int32) (x3 : Int32), Fr gM m σ0 σ → FrP gM m σ0 (fX12_nextOrder_49 n σ x1 x2 x3) := by
  intro n
  induction n with
  | zero => intro σ x1 x2 x3 _; exact frp_n
  | succ n ih =>
    intro σ x1 x2 x3 h
    unfold fX12_nextOrder_49
    refine frp_ck (fun b1 => ?_)
    refine frp_nm (fun v7 => ?_)
    refine frp_ck (fun b2 => ?_)
    refine frp_nm (fun v8 => ?_)
    refine frp_if ?_ ?_
    · skip
      refine frp_ck (fun b3 => ?_)
      refine frp_nm (fun v9 => ?_)
      refine frp_ck (fun b4 => ?_)
      refine frp_nm (fun v10 => ?_)
      refine frp_ck (fun b5 => ?_)
      refine frp_w (Fr.wI h (tb_of (g := 0) hm rfl)) (fun σ11 h6 => ?_)
      refine frp_ck (fun b7 => ?_)
      refine frp_w (Fr.wI h6 (tb_of (g := 0) hm rfl)) (fun σ12 h8 => ?_)
      refine frp_nm (fun v13 => ?_)
      refine frp_nm (fun v14 => ?_)
      exact (wfX12_nextOrder_108 hm _ _ _ _ h8)
    · skip
      refine frp_nm (fun v15 => ?_)
      exact (ih _ _ _ _ h)
theorem wfX12_nextOrder_39 {m : Nat} {σ0 : S2} (hm : 1 ||| m = m) (σ : S2) (x1 : Int32) (x2 : Int32) (h : Fr gM m σ0 σ) : FrP gM m σ0 (fX12_nextOrder_39 σ x1 x2) := by
  unfold fX12_nextOrder_39
  refine frp_if ?_ ?_
  · skip
    refine frp_nm (fun v16 => ?_)
    exact (wfX12_nextOrder_49 hm _ _ _ _ _ h)
  · skip
    exact frp_s h
theorem wfX12_nextOrder_21 {m : Nat} {σ0 : S2} (hm : 1 ||| m = m) (k4 : S2 → Int32 → Int32 → Option (Int32 × S2)) (hk4 : ∀ (y0 : S2) (y1 : Int32) (y2 : Int32), Fr gM m σ0 y0 → FrP gM m σ0 (k4 y0 y1 y2)) (σ : S2) (x1 : Int32) (x2 : Int32) (s0 : Int32) (h : Fr gM m σ0 σ) : FrP gM m σ0 (fX12_nextOrder_21 k4 σ x1 x2 s0) := by
  unfold fX12_nextOrder_21
  refine frp_ck (fun b1 => ?_)
  refine frp_nm (fun v17 => ?_)
  refine frp_ck (fun b2 => ?_)
  refine frp_nm (fun v18 => ?_)
  refine frp_if ?_ ?_
  · skip
    exact (wfX12_nextOrder_39 hm _ _ _ h)
  · skip
    refine frp_nm (fun v19 => ?_)
    exact (hk4 _ _ _ h)
theorem wfX12_nextOrder_4 {m : Nat} {σ0 : S2} (hm : 1 ||| m = m) : ∀ (n : Nat) (σ : S2) (x1 : Int32) (x2 : Int32), Fr gM m σ0 σ → FrP gM m σ0 (fX12_nextOrder_4 n σ x1 x2) := by
  intro n
  induction n with
  | zero => intro σ x1 x2 _; exact frp_n
  | succ n ih =>
    intro σ x1 x2 h
    unfold fX12_nextOrder_4
    refine frp_if ?_ ?_
    · skip
      exact (wfX12_nextOrder_39 hm _ _ _ h)
    · skip
      refine frp_if ?_ ?_
      · skip
        exact (wfX12_nextOrder_21 hm _ ih _ _ _ _ h)
      · skip
        exact (wfX12_nextOrder_21 hm _ ih _ _ _ _ h)
theorem wfX12_nextOrder_0 {m : Nat} {σ0 : S2} (hm : 1 ||| m = m) (σ : S2) (x1 : Int32) (h : Fr gM m σ0 σ) : FrP gM m σ0 (fX12_nextOrder_0 σ x1) := by
  unfold fX12_nextOrder_0
  refine frp_nm (fun v20 => ?_)
  exact (wfX12_nextOrder_4 hm _ _ _ _ h)
theorem wfX12_nextOrder {m : Nat} {σ0 : S2} (hm : 1 ||| m = m) (σ : S2) (a1 : Int32) (h : Fr gM m σ0 σ) : FrP gM m σ0 (fX12_nextOrder σ a1) := by
  unfold fX12_nextOrder
  exact (wfX12_nextOrder_0 hm _ _ h)
theorem wfX12_order_195 {m : Nat} {σ0 : S2} (hm : 197121 ||| m = m) (k126 : S2 → Int32 → Int32 → Int32 → Option (Int32 × S2)) (hk126 : ∀ (y0 : S2) (y1 : Int32) (y2 : Int32) (y3 : Int32), Fr gM m σ0 y0 → FrP gM m σ0 (k126 y0 y1 y2 y3)) (σ : S2) (x1 : Int32) (x2 : Int32) (h : Fr gM m σ0 σ) : FrP gM m σ0 (fX12_order_195 k126 σ x1 x2) := by
  unfold fX12_order_195
  refine frp_bs (wfX12_nextOrder (tb_sub (a := 197121) rfl hm) _ _ h) (fun r1 σ2 h1 => ?_)
  exact (hk126 _ _ _ _ h1)
theorem wfX12_order_166 {m : Nat} {σ0 : S2} (hm : 197121 ||| m = m) (k126 : S2 → Int32 → Int32 → Int32 → Option (Int32 × S2)) (hk126 : ∀ (y0 : S2) (y1 : Int32) (y2 : Int32) (y3 : Int32), Fr gM m σ0 y0 → FrP gM m σ0 (k126 y0 y1 y2 y3)) : ∀ (n : Nat) (σ : S2) (x1 : Int32) (x2 : Int32) (x5 : Int32), Fr gM m σ0 σ → FrP gM m σ0 (fX12_order_166 k126 n σ x1 x2 x5) := by
  intro n
  induction n with
  | zero => intro σ x1 x2 x5 _; exact frp_n
  | succ n ih =>
    intro σ x1 x2 x5 h
    unfold fX12_order_166
    refine frp_if ?_ ?_
    · skip
      exact (wfX12_order_195 hm _ hk126 _ _ _ h)
    · skip
      refine frp_ck (fun b1 => ?_)
      refine frp_nm (fun v4 => ?_)
      refine frp_ck (fun b2 => ?_)
      refine frp_w (Fr.wI h (tb_of (g := 17) hm rfl)) (fun σ5 h3 => ?_)
      refine frp_nm (fun v6 => ?_)
      exact (ih _ _ _ _ h3)
theorem wfX12_order_152 {m : Nat} {σ0 : S2} (hm : 197121 ||| m = m) (k126 : S2 → Int32 → Int32 → Int32 → Option (Int32 × S2)) (hk126 : ∀ (y0 : S2) (y1 : Int32) (y2 : Int32) (y3 : Int32), Fr gM m σ0 y0 → FrP gM m σ0 (k126 y0 y1 y2 y3)) (σ : S2) (x1 : Int32) (x4 : Int32) (h : Fr gM m σ0 σ) : FrP gM m σ0 (fX12_order_152 k126 σ x1 x4) := by
  unfold fX12_order_152
  refine frp_w (Fr.wI h (tb_of (g := 17) hm rfl)) (fun σ7 h1 => ?_)
  exact (wfX12_order_166 hm _ hk126 _ _ _ _ _ h1)
theorem wfX12_order_126 {m : Nat} {σ0 : S2} (hm : 197121 ||| m = m) : ∀ (n : Nat) (σ : S2) (x1 : Int32) (x2 : Int32) (x3 : Int32), Fr gM m σ0 σ → FrP gM m σ0 (fX12_order_126 n σ x1 x2 x3) := by
  intro n
  induction n with
  | zero => intro σ x1 x2 x3 _; exact frp_n
  | succ n ih =>
    intro σ x1 x2 x3 h
    unfold fX12_order_126
    refine frp_if ?_ ?_
    · skip
      refine frp_if ?_ ?_
      · skip
        refine frp_w (Fr.wI h (tb_of (g := 16) hm rfl)) (fun σ8 h1 => ?_)
        exact frp_s h1
      · skip
        exact frp_s h
    · skip
      refine frp_bi (fun r9 => ?_)
      refine frp_if ?_ ?_
      · skip
        exact (wfX12_order_195 hm _ ih _ _ _ h)
      · skip
        refine frp_if ?_ ?_
        · skip
          exact (wfX12_order_152 hm _ ih _ _ _ h)
        · skip
          refine frp_if ?_ ?_
          · skip
            exact (wfX12_order_195 hm _ ih _ _ _ h)
          · skip
            exact (wfX12_order_152 hm _ ih _ _ _ h)
theorem wfX12_order_101 {m : Nat} {σ0 : S2} (hm : 197121 ||| m = m) : ∀ (n : Nat) (σ : S2) (x1 : Int32) (x2 : Int32), Fr gM m σ0 σ → FrP gM m σ0 (fX12_order_101 n σ x1 x2) := by
  intro n
  induction n with
  | zero => intro σ x1 x2 _; exact frp_n
  | succ n ih =>
    intro σ x1 x2 h
    unfold fX12_order_101
    refine frp_if ?_ ?_
    · skip
      exact (wfX12_order_126 hm _ _ _ _ _ h)
    · skip
      refine frp_ck (fun b1 => ?_)
      refine frp_w (Fr.wI h (tb_of (g := 0) hm rfl)) (fun σ11 h2 => ?_)
      refine frp_nm (fun v12 => ?_)
      exact (ih _ _ _ h2)
theorem wfX12_order_93 {m : Nat} {σ0 : S2} (hm : 197121 ||| m = m) (k19 : S2 → Int32 → Int32 → Option (Int32 × S2)) (hk19 : ∀ (y0 : S2) (y1 : Int32) (y2 : Int32), Fr gM m σ0 y0 → FrP gM m σ0 (k19 y0 y1 y2)) (σ : S2) (x1 : Int32) (x2 : Int32) (h : Fr gM m σ0 σ) : FrP gM m σ0 (fX12_order_93 k19 σ x1 x2) := by
  unfold fX12_order_93
  refine frp_nm (fun v13 => ?_)
  exact (hk19 _ _ _ h)
theorem wfX12_order_57 {m : Nat} {σ0 : S2} (hm : 197121 ||| m = m) (k19 : S2 → Int32 → Int32 → Option (Int32 × S2)) (hk19 : ∀ (y0 : S2) (y1 : Int32) (y2 : Int32), Fr gM m σ0 y0 → FrP gM m σ0 (k19 y0 y1 y2)) : ∀ (n : Nat) (σ : S2) (x1 : Int32) (x2 : Int32) (x3 : Int32), Fr gM m σ0 σ → FrP gM m σ0 (fX12_order_57 k19 n σ x1 x2 x3) := by
  intro n
  induction n with
  | zero => intro σ x1 x2 x3 _; exact frp_n
  | succ n ih =>
    intro σ x1 x2 x3 h
    unfold fX12_order_57
    refine frp_if ?_ ?_
    · skip
      exact (wfX12_order_93 hm _ hk19 _ _ _ h)
    · skip
      refine frp_bs (wfX12_chooseName (tb_sub (a := 197121) rfl hm) _ _ _ h) (fun r14 σ15 h1 => ?_)
      refine frp_bi (fun r17 => ?_)
      refine frp_ck (fun b2 => ?_)
      refine frp_w (Fr.wI h1 (tb_of (g := 0) hm rfl)) (fun σ19 h3 => ?_)
      refine frp_nm (fun v20 => ?_)
      exact (ih _ _ _ _ h3)
theorem wfX12_order_19 {m : Nat} {σ0 : S2} (hm : 197121 ||| m = m) : ∀ (n : Nat) (σ : S2) (x1 : Int32) (x2 : Int32), Fr gM m σ0 σ → FrP gM m σ0 (fX12_order_19 n σ x1 x2) := by
  intro n
  induction n with
  | zero => intro σ x1 x2 _; exact frp_n
  | succ n ih =>
    intro σ x1 x2 h
    unfold fX12_order_19
    refine frp_if ?_ ?_
    · skip
      exact (wfX12_order_101 hm _ _ _ _ h)
    · skip
      refine frp_bi (fun r21 => ?_)
      refine frp_if ?_ ?_
      · skip
        exact (wfX12_order_93 hm _ ih _ _ _ h)
      · skip
        refine frp_bi (fun r23 => ?_)
        refine frp_ck (fun b1 => ?_)
        refine frp_nm (fun v25 => ?_)
        refine frp_bs (wfX12_tries (tb_sub (a := 197121) rfl hm) _ _ _ _ h) (fun r26 σ27 h2 => ?_)
        exact (wfX12_order_57 hm _ ih _ _ _ _ _ h2)
theorem wfX12_order_0 {m : Nat} {σ0 : S2} (hm : 197121 ||| m = m) (σ : S2) (x1 : Int32) (h : Fr gM m σ0 σ) : FrP gM m σ0 (fX12_order_0 σ x1) := by
  unfold fX12_order_0
  refine frp_bi (fun r29 => ?_)
  refine frp_if ?_ ?_
  · skip
    exact frp_s h
  · skip
    refine frp_if ?_ ?_
    · skip
      exact frp_s h
    · skip
      exact (wfX12_order_19 hm _ _ _ _ h)
theorem wfX12_order {m : Nat} {σ0 : S2} (hm : 197121 ||| m = m) (σ : S2) (a1 : Int32) (h : Fr gM m σ0 σ) : FrP gM m σ0 (fX12_order σ a1) := by
  unfold fX12_order
  exact (wfX12_order_0 hm _ _ h)
theorem wfX12_turning_0 {m : Nat} {σ0 : S2} (hm : 262144 ||| m = m) (σ : S2) (x1 : Int32) (h : Fr gM m σ0 σ) : FrP gM m σ0 (fX12_turning_0 σ x1) := by
  unfold fX12_turning_0
  refine frp_if ?_ ?_
  · skip
    exact frp_s h
  · skip
    refine frp_ck (fun b1 => ?_)
    refine frp_w (Fr.wI h (tb_of (g := 18) hm rfl)) (fun σ1 h2 => ?_)
    refine frp_w (Fr.wI h2 (tb_of (g := 18) hm rfl)) (fun σ2 h3 => ?_)
    exact frp_s h3
theorem wfX12_turning {m : Nat} {σ0 : S2} (hm : 262144 ||| m = m) (σ : S2) (a1 : Int32) (h : Fr gM m σ0 σ) : FrP gM m σ0 (fX12_turning σ a1) := by
  unfold fX12_turning
  exact (wfX12_turning_0 hm _ _ h)
theorem wfX12_harm_129 {m : Nat} {σ0 : S2} (hm : 786945 ||| m = m) (k21 : S2 → Int32 → Int32 → Int32 → Option (Int32 × S2)) (hk21 : ∀ (y0 : S2) (y1 : Int32) (y2 : Int32) (y3 : Int32), Fr gM m σ0 y0 → FrP gM m σ0 (k21 y0 y1 y2 y3)) (σ : S2) (x1 : Int32) (x2 : Int32) (x3 : Int32) (h : Fr gM m σ0 σ) : FrP gM m σ0 (fX12_harm_129 k21 σ x1 x2 x3) := by
  unfold fX12_harm_129
  refine frp_nm (fun v1 => ?_)
  exact (hk21 _ _ _ _ h)
theorem wfX12_harm_121 {m : Nat} {σ0 : S2} (hm : 786945 ||| m = m) (k21 : S2 → Int32 → Int32 → Int32 → Option (Int32 × S2)) (hk21 : ∀ (y0 : S2) (y1 : Int32) (y2 : Int32) (y3 : Int32), Fr gM m σ0 y0 → FrP gM m σ0 (k21 y0 y1 y2 y3)) (σ : S2) (x1 : Int32) (x3 : Int32) (x4 : Int32) (h : Fr gM m σ0 σ) : FrP gM m σ0 (fX12_harm_121 k21 σ x1 x3 x4) := by
  unfold fX12_harm_121
  refine frp_w (Fr.wI h (tb_of (g := 19) hm rfl)) (fun σ2 h1 => ?_)
  exact (wfX12_harm_129 hm _ hk21 _ _ _ _ h1)
theorem wfX12_harm_100 {m : Nat} {σ0 : S2} (hm : 786945 ||| m = m) (k52 : S2 → Int32 → Int32 → Int32 → Int32 → Int32 → Option (Int32 × S2)) (hk52 : ∀ (y0 : S2) (y1 : Int32) (y2 : Int32) (y3 : Int32) (y4 : Int32) (y5 : Int32), Fr gM m σ0 y0 → FrP gM m σ0 (k52 y0 y1 y2 y3 y4 y5)) (σ : S2) (x1 : Int32) (x2 : Int32) (x3 : Int32) (x5 : Int32) (s0 : Int32) (h : Fr gM m σ0 σ) : FrP gM m σ0 (fX12_harm_100 k52 σ x1 x2 x3 x5 s0) := by
  unfold fX12_harm_100
  refine frp_nm (fun v3 => ?_)
  exact (hk52 _ _ _ _ _ _ h)
theorem wfX12_harm_84 {m : Nat} {σ0 : S2} (hm : 786945 ||| m = m) (k52 : S2 → Int32 → Int32 → Int32 → Int32 → Int32 → Option (Int32 × S2)) (hk52 : ∀ (y0 : S2) (y1 : Int32) (y2 : Int32) (y3 : Int32) (y4 : Int32) (y5 : Int32), Fr gM m σ0 y0 → FrP gM m σ0 (k52 y0 y1 y2 y3 y4 y5)) (σ : S2) (x1 : Int32) (x2 : Int32) (x3 : Int32) (x4 : Int32) (x5 : Int32) (s0 : Int32) (h : Fr gM m σ0 σ) : FrP gM m σ0 (fX12_harm_84 k52 σ x1 x2 x3 x4 x5 s0) := by
  unfold fX12_harm_84
  refine frp_if ?_ ?_
  · skip
    exact (wfX12_harm_100 hm _ hk52 _ _ _ _ _ _ h)
  · skip
    exact (wfX12_harm_100 hm _ hk52 _ _ _ _ _ _ h)
theorem wfX12_harm_52 {m : Nat} {σ0 : S2} (hm : 786945 ||| m = m) (k21 : S2 → Int32 → Int32 → Int32 → Option (Int32 × S2)) (hk21 : ∀ (y0 : S2) (y1 : Int32) (y2 : Int32) (y3 : Int32), Fr gM m σ0 y0 → FrP gM m σ0 (k21 y0 y1 y2 y3)) : ∀ (n : Nat) (σ : S2) (x1 : Int32) (x2 : Int32) (x3 : Int32) (x4 : Int32) (x5 : Int32), Fr gM m σ0 σ → FrP gM m σ0 (fX12_harm_52 k21 n σ x1 x2 x3 x4 x5) := by
  intro n
  induction n with
  | zero => intro σ x1 x2 x3 x4 x5 _; exact frp_n
  | succ n ih =>
    intro σ x1 x2 x3 x4 x5 h
    unfold fX12_harm_52
    refine frp_if ?_ ?_
    · skip
      refine frp_if ?_ ?_
      · skip
        exact (wfX12_harm_121 hm _ hk21 _ _ _ _ h)
      · skip
        refine frp_if ?_ ?_
        · skip
          exact (wfX12_harm_129 hm _ hk21 _ _ _ _ h)
        · skip
          exact (wfX12_harm_121 hm _ hk21 _ _ _ _ h)
    · skip
      refine frp_bi (fun r4 => ?_)
      refine frp_if ?_ ?_
      · skip
        exact (wfX12_harm_84 hm _ ih _ _ _ _ _ _ _ h)
      · skip
        refine frp_bs (wfX12_shareOf (tb_sub (a := 786945) rfl hm) _ _ _ h) (fun r6 σ7 h1 => ?_)
        exact (wfX12_harm_84 hm _ ih _ _ _ _ _ _ _ h1)
theorem wfX12_harm_21 {m : Nat} {σ0 : S2} (hm : 786945 ||| m = m) : ∀ (n : Nat) (σ : S2) (x1 : Int32) (x2 : Int32) (x3 : Int32), Fr gM m σ0 σ → FrP gM m σ0 (fX12_harm_21 n σ x1 x2 x3) := by
  intro n
  induction n with
  | zero => intro σ x1 x2 x3 _; exact frp_n
  | succ n ih =>
    intro σ x1 x2 x3 h
    unfold fX12_harm_21
    refine frp_if ?_ ?_
    · skip
      refine frp_w (Fr.wI h (tb_of (g := 18) hm rfl)) (fun σ9 h1 => ?_)
      exact frp_s h1
    · skip
      refine frp_ck (fun b2 => ?_)
      refine frp_nm (fun v10 => ?_)
      refine frp_ck (fun b3 => ?_)
      refine frp_nm (fun v11 => ?_)
      refine frp_bs (wfX12_tries (tb_sub (a := 786945) rfl hm) _ _ _ _ h) (fun r12 σ13 h4 => ?_)
      exact (wfX12_harm_52 hm _ ih _ _ _ _ _ _ _ h4)
theorem wfX12_harm_0 {m : Nat} {σ0 : S2} (hm : 786945 ||| m = m) (σ : S2) (x1 : Int32) (h : Fr gM m σ0 σ) : FrP gM m σ0 (fX12_harm_0 σ x1) := by
  unfold fX12_harm_0
  refine frp_bi (fun r15 => ?_)
  refine frp_if ?_ ?_
  · skip
    exact frp_s h
  · skip
    refine frp_if ?_ ?_
    · skip
      exact frp_s h
    · skip
      exact (wfX12_harm_21 hm _ _ _ _ _ h)
theorem wfX12_harm {m : Nat} {σ0 : S2} (hm : 786945 ||| m = m) (σ : S2) (a1 : Int32) (h : Fr gM m σ0 σ) : FrP gM m σ0 (fX12_harm σ a1) := by
  unfold fX12_harm
  exact (wfX12_harm_0 hm _ _ h)
theorem wfX12_begins_19 {m : Nat} {σ0 : S2} (hm : 1048576 ||| m = m) (σ : S2) (h : Fr gM m σ0 σ) : FrP gM m σ0 (fX12_begins_19 σ) := by
  unfold fX12_begins_19
  refine frp_w (Fr.wI h (tb_of (g := 20) hm rfl)) (fun σ1 h1 => ?_)
  exact frp_s h1
theorem wfX12_begins_0 {m : Nat} {σ0 : S2} (hm : 1048576 ||| m = m) (σ : S2) (x1 : Int32) (h : Fr gM m σ0 σ) : FrP gM m σ0 (fX12_begins_0 σ x1) := by
  unfold fX12_begins_0
  refine frp_if ?_ ?_
  · skip
    exact (wfX12_begins_19 hm _ h)
  · skip
    refine frp_ck (fun b1 => ?_)
    refine frp_w (Fr.wI h (tb_of (g := 20) hm rfl)) (fun σ2 h2 => ?_)
    exact (wfX12_begins_19 hm _ h2)
theorem wfX12_begins {m : Nat} {σ0 : S2} (hm : 1048576 ||| m = m) (σ : S2) (a1 : Int32) (h : Fr gM m σ0 σ) : FrP gM m σ0 (fX12_begins σ a1) := by
  unfold fX12_begins
  exact (wfX12_begins_0 hm _ _ h)
theorem wfX12_findsFrom_0 {m : Nat} {σ0 : S2} (hm : 1048576 ||| m = m) (qX12_findsFrom : S2 → Int32 → Int32 → Int32 → Option (Int32 × S2)) (hqX12_findsFrom : ∀ (y0 : S2) (y1 : Int32) (y2 : Int32) (y3 : Int32), Fr gM m σ0 y0 → FrP gM m σ0 (qX12_findsFrom y0 y1 y2 y3)) (σ : S2) (x1 : Int32) (x2 : Int32) (x3 : Int32) (h : Fr gM m σ0 σ) : FrP gM m σ0 (fX12_findsFrom_0 qX12_findsFrom σ x1 x2 x3) := by
  unfold fX12_findsFrom_0
  refine frp_if ?_ ?_
  · skip
    refine frp_bs (wfX12_begins hm _ _ h) (fun r2 σ3 h1 => ?_)
    exact frp_s h1
  · skip
    refine frp_if ?_ ?_
    · skip
      refine frp_bs (wfX12_begins hm _ _ h) (fun r6 σ7 h2 => ?_)
      refine frp_bs (hqX12_findsFrom _ _ _ _ h2) (fun r9 σ10 h3 => ?_)
      refine frp_ck (fun b4 => ?_)
      refine frp_nm (fun v12 => ?_)
      exact frp_s h3
    · skip
      refine frp_if ?_ ?_
      · skip
        refine frp_bi (fun r14 => ?_)
        refine frp_bs (hqX12_findsFrom _ _ _ _ h) (fun r16 σ17 h5 => ?_)
        exact frp_s h5
      · skip
        refine frp_if ?_ ?_
        · skip
          refine frp_bi (fun r20 => ?_)
          refine frp_bs (hqX12_findsFrom _ _ _ _ h) (fun r22 σ23 h6 => ?_)
          exact frp_s h6
        · skip
          refine frp_if ?_ ?_
          · skip
            refine frp_bi (fun r26 => ?_)
            refine frp_bs (hqX12_findsFrom _ _ _ _ h) (fun r28 σ29 h7 => ?_)
            exact frp_s h7
          · skip
            refine frp_if ?_ ?_
            · skip
              refine frp_bs (wfX12_begins hm _ _ h) (fun r32 σ33 h8 => ?_)
              refine frp_bs (hqX12_findsFrom _ _ _ _ h8) (fun r35 σ36 h9 => ?_)
              exact frp_s h9
            · skip
              refine frp_if ?_ ?_
              · skip
                refine frp_bs (wfX12_begins hm _ _ h) (fun r39 σ40 h10 => ?_)
                refine frp_bs (hqX12_findsFrom _ _ _ _ h10) (fun r42 σ43 h11 => ?_)
                exact frp_s h11
              · skip
                refine frp_bi (fun r45 => ?_)
                refine frp_bs (hqX12_findsFrom _ _ _ _ h) (fun r47 σ48 h12 => ?_)
                exact frp_s h12
theorem weX12_findsFrom {m : Nat} {σ0 : S2} (hm : 1048576 ||| m = m) (qX12_findsFrom : S2 → Int32 → Int32 → Int32 → Option (Int32 × S2)) (hqX12_findsFrom : ∀ (y0 : S2) (y1 : Int32) (y2 : Int32) (y3 : Int32), Fr gM m σ0 y0 → FrP gM m σ0 (qX12_findsFrom y0 y1 y2 y3)) (σ : S2) (a1 : Int32) (a2 : Int32) (a3 : Int32) (h : Fr gM m σ0 σ) : FrP gM m σ0 (eX12_findsFrom qX12_findsFrom σ a1 a2 a3) := by
  unfold eX12_findsFrom
  exact (wfX12_findsFrom_0 hm _ hqX12_findsFrom _ _ _ _ h)
theorem wGX12_findsFrom {m : Nat} {σ0 : S2} (hm : 1048576 ||| m = m) : ∀ (d j : Nat) (σ : S2) (a1 : Int32) (a2 : Int32) (a3 : Int32), Fr gM m σ0 σ → FrP gM m σ0 (GX12_findsFrom d j σ a1 a2 a3) := by
  intro d
  induction d with
  | zero => intro j σ a1 a2 a3 _; exact frp_n
  | succ d ih =>
    intro j σ a1 a2 a3 h
    unfold GX12_findsFrom; exact (weX12_findsFrom hm _ (ih 0) _ _ _ _ h)
theorem wfX12_findsFrom {m : Nat} {σ0 : S2} (hm : 1048576 ||| m = m) (σ : S2) (a1 : Int32) (a2 : Int32) (a3 : Int32) (h : Fr gM m σ0 σ) : FrP gM m σ0 (fX12_findsFrom σ a1 a2 a3) := by
  unfold fX12_findsFrom
  exact (wGX12_findsFrom hm _ _ _ _ _ _ h)
theorem wfX12_movesFrom_0 {m : Nat} {σ0 : S2} (hm : 1048576 ||| m = m) (qX12_movesFrom : S2 → Int32 → Int32 → Int32 → Option (Int32 × S2)) (hqX12_movesFrom : ∀ (y0 : S2) (y1 : Int32) (y2 : Int32) (y3 : Int32), Fr gM m σ0 y0 → FrP gM m σ0 (qX12_movesFrom y0 y1 y2 y3)) (σ : S2) (x1 : Int32) (x2 : Int32) (x3 : Int32) (h : Fr gM m σ0 σ) : FrP gM m σ0 (fX12_movesFrom_0 qX12_movesFrom σ x1 x2 x3) := by
  unfold fX12_movesFrom_0
  refine frp_if ?_ ?_
  · skip
    refine frp_bs (wfX12_begins hm _ _ h) (fun r2 σ3 h1 => ?_)
    exact frp_s h1
  · skip
    refine frp_if ?_ ?_
    · skip
      refine frp_bs (wfX12_begins hm _ _ h) (fun r6 σ7 h2 => ?_)
      refine frp_bs (hqX12_movesFrom _ _ _ _ h2) (fun r9 σ10 h3 => ?_)
      exact frp_s h3
    · skip
      refine frp_if ?_ ?_
      · skip
        refine frp_bs (wfX12_begins hm _ _ h) (fun r13 σ14 h4 => ?_)
        refine frp_bs (hqX12_movesFrom _ _ _ _ h4) (fun r16 σ17 h5 => ?_)
        refine frp_ck (fun b6 => ?_)
        refine frp_nm (fun v19 => ?_)
        refine frp_bs (wfX12_findsFrom hm _ _ _ _ h5) (fun r20 σ21 h7 => ?_)
        exact frp_s h7
      · skip
        refine frp_bi (fun r23 => ?_)
        refine frp_bs (hqX12_movesFrom _ _ _ _ h) (fun r25 σ26 h8 => ?_)
        exact frp_s h8
theorem weX12_movesFrom {m : Nat} {σ0 : S2} (hm : 1048576 ||| m = m) (qX12_movesFrom : S2 → Int32 → Int32 → Int32 → Option (Int32 × S2)) (hqX12_movesFrom : ∀ (y0 : S2) (y1 : Int32) (y2 : Int32) (y3 : Int32), Fr gM m σ0 y0 → FrP gM m σ0 (qX12_movesFrom y0 y1 y2 y3)) (σ : S2) (a1 : Int32) (a2 : Int32) (a3 : Int32) (h : Fr gM m σ0 σ) : FrP gM m σ0 (eX12_movesFrom qX12_movesFrom σ a1 a2 a3) := by
  unfold eX12_movesFrom
  exact (wfX12_movesFrom_0 hm _ hqX12_movesFrom _ _ _ _ h)
theorem wGX12_movesFrom {m : Nat} {σ0 : S2} (hm : 1048576 ||| m = m) : ∀ (d j : Nat) (σ : S2) (a1 : Int32) (a2 : Int32) (a3 : Int32), Fr gM m σ0 σ → FrP gM m σ0 (GX12_movesFrom d j σ a1 a2 a3) := by
  intro d
  induction d with
  | zero => intro j σ a1 a2 a3 _; exact frp_n
  | succ d ih =>
    intro j σ a1 a2 a3 h
    unfold GX12_movesFrom; exact (weX12_movesFrom hm _ (ih 0) _ _ _ _ h)
theorem wfX12_movesFrom {m : Nat} {σ0 : S2} (hm : 1048576 ||| m = m) (σ : S2) (a1 : Int32) (a2 : Int32) (a3 : Int32) (h : Fr gM m σ0 σ) : FrP gM m σ0 (fX12_movesFrom σ a1 a2 a3) := by
  unfold fX12_movesFrom
  exact (wGX12_movesFrom hm _ _ _ _ _ _ h)
theorem wfX12_keepsFrom_0 {m : Nat} {σ0 : S2} (hm : 1048576 ||| m = m) (qX12_keepsFrom : S2 → Int32 → Int32 → Int32 → Option (Int32 × S2)) (hqX12_keepsFrom : ∀ (y0 : S2) (y1 : Int32) (y2 : Int32) (y3 : Int32), Fr gM m σ0 y0 → FrP gM m σ0 (qX12_keepsFrom y0 y1 y2 y3)) (σ : S2) (x1 : Int32) (x2 : Int32) (x3 : Int32) (h : Fr gM m σ0 σ) : FrP gM m σ0 (fX12_keepsFrom_0 qX12_keepsFrom σ x1 x2 x3) := by
  unfold fX12_keepsFrom_0
  refine frp_if ?_ ?_
  · skip
    refine frp_bs (wfX12_begins hm _ _ h) (fun r2 σ3 h1 => ?_)
    refine frp_ck (fun b2 => ?_)
    refine frp_nm (fun v5 => ?_)
    refine frp_bs (wfX12_findsFrom hm _ _ _ _ h1) (fun r6 σ7 h3 => ?_)
    exact frp_s h3
  · skip
    refine frp_if ?_ ?_
    · skip
      refine frp_bs (wfX12_begins hm _ _ h) (fun r10 σ11 h4 => ?_)
      refine frp_bs (hqX12_keepsFrom _ _ _ _ h4) (fun r13 σ14 h5 => ?_)
      exact frp_s h5
    · skip
      refine frp_if ?_ ?_
      · skip
        refine frp_bs (wfX12_begins hm _ _ h) (fun r17 σ18 h6 => ?_)
        refine frp_bs (hqX12_keepsFrom _ _ _ _ h6) (fun r20 σ21 h7 => ?_)
        refine frp_bs (wfX12_movesFrom hm _ _ _ _ h7) (fun r23 σ24 h8 => ?_)
        exact frp_s h8
      · skip
        refine frp_bi (fun r26 => ?_)
        refine frp_bs (hqX12_keepsFrom _ _ _ _ h) (fun r28 σ29 h9 => ?_)
        exact frp_s h9
theorem weX12_keepsFrom {m : Nat} {σ0 : S2} (hm : 1048576 ||| m = m) (qX12_keepsFrom : S2 → Int32 → Int32 → Int32 → Option (Int32 × S2)) (hqX12_keepsFrom : ∀ (y0 : S2) (y1 : Int32) (y2 : Int32) (y3 : Int32), Fr gM m σ0 y0 → FrP gM m σ0 (qX12_keepsFrom y0 y1 y2 y3)) (σ : S2) (a1 : Int32) (a2 : Int32) (a3 : Int32) (h : Fr gM m σ0 σ) : FrP gM m σ0 (eX12_keepsFrom qX12_keepsFrom σ a1 a2 a3) := by
  unfold eX12_keepsFrom
  exact (wfX12_keepsFrom_0 hm _ hqX12_keepsFrom _ _ _ _ h)
theorem wGX12_keepsFrom {m : Nat} {σ0 : S2} (hm : 1048576 ||| m = m) : ∀ (d j : Nat) (σ : S2) (a1 : Int32) (a2 : Int32) (a3 : Int32), Fr gM m σ0 σ → FrP gM m σ0 (GX12_keepsFrom d j σ a1 a2 a3) := by
  intro d
  induction d with
  | zero => intro j σ a1 a2 a3 _; exact frp_n
  | succ d ih =>
    intro j σ a1 a2 a3 h
    unfold GX12_keepsFrom; exact (weX12_keepsFrom hm _ (ih 0) _ _ _ _ h)
theorem wfX12_keepsFrom {m : Nat} {σ0 : S2} (hm : 1048576 ||| m = m) (σ : S2) (a1 : Int32) (a2 : Int32) (a3 : Int32) (h : Fr gM m σ0 σ) : FrP gM m σ0 (fX12_keepsFrom σ a1 a2 a3) := by
  unfold fX12_keepsFrom
  exact (wGX12_keepsFrom hm _ _ _ _ _ _ h)
theorem wfX12_tellsFrom_0 {m : Nat} {σ0 : S2} (hm : 1048576 ||| m = m) (qX12_tellsFrom : S2 → Int32 → Int32 → Int32 → Option (Int32 × S2)) (hqX12_tellsFrom : ∀ (y0 : S2) (y1 : Int32) (y2 : Int32) (y3 : Int32), Fr gM m σ0 y0 → FrP gM m σ0 (qX12_tellsFrom y0 y1 y2 y3)) (σ : S2) (x1 : Int32) (x2 : Int32) (x3 : Int32) (h : Fr gM m σ0 σ) : FrP gM m σ0 (fX12_tellsFrom_0 qX12_tellsFrom σ x1 x2 x3) := by
  unfold fX12_tellsFrom_0
  refine frp_if ?_ ?_
  · skip
    refine frp_bs (wfX12_begins hm _ _ h) (fun r2 σ3 h1 => ?_)
    refine frp_ck (fun b2 => ?_)
    refine frp_nm (fun v5 => ?_)
    refine frp_bs (wfX12_keepsFrom hm _ _ _ _ h1) (fun r6 σ7 h3 => ?_)
    refine frp_ck (fun b4 => ?_)
    refine frp_nm (fun v9 => ?_)
    refine frp_bs (wfX12_movesFrom hm _ _ _ _ h3) (fun r10 σ11 h5 => ?_)
    exact frp_s h5
  · skip
    refine frp_if ?_ ?_
    · skip
      refine frp_bs (wfX12_begins hm _ _ h) (fun r14 σ15 h6 => ?_)
      refine frp_bs (hqX12_tellsFrom _ _ _ _ h6) (fun r17 σ18 h7 => ?_)
      exact frp_s h7
    · skip
      refine frp_bi (fun r20 => ?_)
      refine frp_bs (hqX12_tellsFrom _ _ _ _ h) (fun r22 σ23 h8 => ?_)
      exact frp_s h8
theorem weX12_tellsFrom {m : Nat} {σ0 : S2} (hm : 1048576 ||| m = m) (qX12_tellsFrom : S2 → Int32 → Int32 → Int32 → Option (Int32 × S2)) (hqX12_tellsFrom : ∀ (y0 : S2) (y1 : Int32) (y2 : Int32) (y3 : Int32), Fr gM m σ0 y0 → FrP gM m σ0 (qX12_tellsFrom y0 y1 y2 y3)) (σ : S2) (a1 : Int32) (a2 : Int32) (a3 : Int32) (h : Fr gM m σ0 σ) : FrP gM m σ0 (eX12_tellsFrom qX12_tellsFrom σ a1 a2 a3) := by
  unfold eX12_tellsFrom
  exact (wfX12_tellsFrom_0 hm _ hqX12_tellsFrom _ _ _ _ h)
theorem wGX12_tellsFrom {m : Nat} {σ0 : S2} (hm : 1048576 ||| m = m) : ∀ (d j : Nat) (σ : S2) (a1 : Int32) (a2 : Int32) (a3 : Int32), Fr gM m σ0 σ → FrP gM m σ0 (GX12_tellsFrom d j σ a1 a2 a3) := by
  intro d
  induction d with
  | zero => intro j σ a1 a2 a3 _; exact frp_n
  | succ d ih =>
    intro j σ a1 a2 a3 h
    unfold GX12_tellsFrom; exact (weX12_tellsFrom hm _ (ih 0) _ _ _ _ h)
theorem wfX12_tellsFrom {m : Nat} {σ0 : S2} (hm : 1048576 ||| m = m) (σ : S2) (a1 : Int32) (a2 : Int32) (a3 : Int32) (h : Fr gM m σ0 σ) : FrP gM m σ0 (fX12_tellsFrom σ a1 a2 a3) := by
  unfold fX12_tellsFrom
  exact (wGX12_tellsFrom hm _ _ _ _ _ _ h)
theorem wfX12_act_0 {m : Nat} {σ0 : S2} (hm : 1048576 ||| m = m) (σ : S2) (x1 : Int32) (x2 : Int32) (x3 : Int32) (h : Fr gM m σ0 σ) : FrP gM m σ0 (fX12_act_0 σ x1 x2 x3) := by
  unfold fX12_act_0
  refine frp_w (Fr.wI h (tb_of (g := 20) hm rfl)) (fun σ1 h1 => ?_)
  refine frp_bi (fun r2 => ?_)
  refine frp_if ?_ ?_
  · skip
    exact frp_s h1
  · skip
    refine frp_bi (fun r4 => ?_)
    refine frp_if ?_ ?_
    · skip
      exact frp_s h1
    · skip
      refine frp_ck (fun b2 => ?_)
      refine frp_nm (fun v6 => ?_)
      refine frp_if ?_ ?_
      · skip
        refine frp_bs (wfX12_findsFrom hm _ _ _ _ h1) (fun r16 σ17 h3 => ?_)
        exact frp_s h3
      · skip
        refine frp_if ?_ ?_
        · skip
          refine frp_bs (wfX12_keepsFrom hm _ _ _ _ h1) (fun r13 σ14 h4 => ?_)
          exact frp_s h4
        · skip
          refine frp_if ?_ ?_
          · skip
            refine frp_bs (wfX12_movesFrom hm _ _ _ _ h1) (fun r10 σ11 h5 => ?_)
            exact frp_s h5
          · skip
            refine frp_bs (wfX12_tellsFrom hm _ _ _ _ h1) (fun r7 σ8 h6 => ?_)
            exact frp_s h6
theorem wfX12_act {m : Nat} {σ0 : S2} (hm : 1048576 ||| m = m) (σ : S2) (a1 : Int32) (a2 : Int32) (a3 : Int32) (h : Fr gM m σ0 σ) : FrP gM m σ0 (fX12_act σ a1 a2 a3) := by
  unfold fX12_act
  exact (wfX12_act_0 hm _ _ _ _ h)
theorem wfX12_keep_22 {m : Nat} {σ0 : S2} (hm : 2097152 ||| m = m) (σ : S2) (x1 : Int32) (x2 : Int32) (h : Fr gM m σ0 σ) : FrP gM m σ0 (fX12_keep_22 σ x1 x2) := by
  unfold fX12_keep_22
  refine frp_ck (fun b1 => ?_)
  refine frp_w (Fr.wI h (tb_of (g := 21) hm rfl)) (fun σ1 h2 => ?_)
  refine frp_ck (fun b3 => ?_)
  refine frp_w (Fr.wI h2 (tb_of (g := 21) hm rfl)) (fun σ2 h4 => ?_)
  exact frp_s h4
theorem wfX12_keep_0 {m : Nat} {σ0 : S2} (hm : 2097152 ||| m = m) (σ : S2) (x1 : Int32) (x2 : Int32) (h : Fr gM m σ0 σ) : FrP gM m σ0 (fX12_keep_0 σ x1 x2) := by
  unfold fX12_keep_0
  refine frp_bi (fun r3 => ?_)
  refine frp_if ?_ ?_
  · skip
    exact frp_s h
  · skip
    refine frp_if ?_ ?_
    · skip
      exact (wfX12_keep_22 hm _ _ _ h)
    · skip
      refine frp_bi (fun r5 => ?_)
      refine frp_if ?_ ?_
      · skip
        exact frp_s h
      · skip
        exact (wfX12_keep_22 hm _ _ _ h)
theorem wfX12_keep {m : Nat} {σ0 : S2} (hm : 2097152 ||| m = m) (σ : S2) (a1 : Int32) (a2 : Int32) (h : Fr gM m σ0 σ) : FrP gM m σ0 (fX12_keep σ a1 a2) := by
  unfold fX12_keep
  exact (wfX12_keep_0 hm _ _ _ h)
theorem wfX12_row_55 {m : Nat} {σ0 : S2} (hm : 6291456 ||| m = m) : ∀ (n : Nat) (σ : S2) (x1 : Int32) (x4 : Int32), Fr gM m σ0 σ → FrP gM m σ0 (fX12_row_55 n σ x1 x4) := by
  intro n
  induction n with
  | zero => intro σ x1 x4 _; exact frp_n
  | succ n ih =>
    intro σ x1 x4 h
    unfold fX12_row_55
    refine frp_if ?_ ?_
    · skip
      exact frp_s h
    · skip
      refine frp_ck (fun b1 => ?_)
      refine frp_w (Fr.wL h (tb_of (g := 22) hm rfl)) (fun σ1 h2 => ?_)
      refine frp_nm (fun v2 => ?_)
      exact (ih _ _ _ h2)
theorem wfX12_row_0 {m : Nat} {σ0 : S2} (hm : 6291456 ||| m = m) (σ : S2) (x1 : Int32) (x2 : Int32) (x3 : Int32) (h : Fr gM m σ0 σ) : FrP gM m σ0 (fX12_row_0 σ x1 x2 x3) := by
  unfold fX12_row_0
  refine frp_bi (fun r3 => ?_)
  refine frp_if ?_ ?_
  · skip
    exact frp_s h
  · skip
    refine frp_bi (fun r5 => ?_)
    refine frp_if ?_ ?_
    · skip
      exact frp_s h
    · skip
      refine frp_if ?_ ?_
      · skip
        refine frp_if ?_ ?_
        · skip
          refine frp_ck (fun b1 => ?_)
          refine frp_w (Fr.wI h (tb_of (g := 21) hm rfl)) (fun σ7 h2 => ?_)
          refine frp_ck (fun b3 => ?_)
          refine frp_w (Fr.wI h2 (tb_of (g := 21) hm rfl)) (fun σ8 h4 => ?_)
          refine frp_ck (fun b5 => ?_)
          refine frp_w (Fr.wI h4 (tb_of (g := 21) hm rfl)) (fun σ9 h6 => ?_)
          exact (wfX12_row_55 hm _ _ _ _ h6)
        · skip
          exact frp_s h
      · skip
        exact frp_s h
theorem wfX12_row {m : Nat} {σ0 : S2} (hm : 6291456 ||| m = m) (σ : S2) (a1 : Int32) (a2 : Int32) (a3 : Int32) (h : Fr gM m σ0 σ) : FrP gM m σ0 (fX12_row σ a1 a2 a3) := by
  unfold fX12_row
  exact (wfX12_row_0 hm _ _ _ _ h)
theorem wfX12_put_92 {m : Nat} {σ0 : S2} (hm : 4194304 ||| m = m) (σ : S2) (s0 : Int64) (s1 : Int32) (h : Fr gM m σ0 σ) : FrP gM m σ0 (fX12_put_92 σ s0 s1) := by
  unfold fX12_put_92
  refine frp_ck (fun b1 => ?_)
  refine frp_w (Fr.wL h (tb_of (g := 22) hm rfl)) (fun σ1 h2 => ?_)
  exact frp_s h2
theorem wfX12_put_0 {m : Nat} {σ0 : S2} (hm : 4194304 ||| m = m) (σ : S2) (x1 : Int32) (x2 : Int32) (x3 : Int64) (h : Fr gM m σ0 σ) : FrP gM m σ0 (fX12_put_0 σ x1 x2 x3) := by
  unfold fX12_put_0
  refine frp_bi (fun r2 => ?_)
  refine frp_if ?_ ?_
  · skip
    refine frp_ck (fun b1 => ?_)
    refine frp_nm (fun v4 => ?_)
    refine frp_if ?_ ?_
    · skip
      exact (wfX12_put_92 hm _ _ _ h)
    · skip
      refine frp_if ?_ ?_
      · skip
        exact (wfX12_put_92 hm _ _ _ h)
      · skip
        refine frp_if ?_ ?_
        · skip
          exact (wfX12_put_92 hm _ _ _ h)
        · skip
          refine frp_if ?_ ?_
          · skip
            exact (wfX12_put_92 hm _ _ _ h)
          · skip
            refine frp_if ?_ ?_
            · skip
              exact (wfX12_put_92 hm _ _ _ h)
            · skip
              exact (wfX12_put_92 hm _ _ _ h)
  · skip
    exact frp_s h
theorem wfX12_put {m : Nat} {σ0 : S2} (hm : 4194304 ||| m = m) (σ : S2) (a1 : Int32) (a2 : Int32) (a3 : Int64) (h : Fr gM m σ0 σ) : FrP gM m σ0 (fX12_put σ a1 a2 a3) := by
  unfold fX12_put
  exact (wfX12_put_0 hm _ _ _ _ h)
theorem wfX12_shift_193 {m : Nat} {σ0 : S2} (hm : 4194304 ||| m = m) (k167 : S2 → Int32 → Int32 → Int32 → Int32 → Option (Int32 × S2)) (hk167 : ∀ (y0 : S2) (y1 : Int32) (y2 : Int32) (y3 : Int32) (y4 : Int32), Fr gM m σ0 y0 → FrP gM m σ0 (k167 y0 y1 y2 y3 y4)) (σ : S2) (x5 : Int32) (x6 : Int32) (x7 : Int32) (x8 : Int32) (s0 : Int32) (h : Fr gM m σ0 σ) : FrP gM m σ0 (fX12_shift_193 k167 σ x5 x6 x7 x8 s0) := by
  unfold fX12_shift_193
  refine frp_ck (fun b1 => ?_)
  refine frp_nm (fun v1 => ?_)
  refine frp_ck (fun b2 => ?_)
  refine frp_w (Fr.wL h (tb_of (g := 22) hm rfl)) (fun σ2 h3 => ?_)
  refine frp_nm (fun v3 => ?_)
  exact (hk167 _ _ _ _ _ h3)
theorem wfX12_shift_167 {m : Nat} {σ0 : S2} (hm : 4194304 ||| m = m) : ∀ (n : Nat) (σ : S2) (x5 : Int32) (x6 : Int32) (x7 : Int32) (x8 : Int32), Fr gM m σ0 σ → FrP gM m σ0 (fX12_shift_167 n σ x5 x6 x7 x8) := by
  intro n
  induction n with
  | zero => intro σ x5 x6 x7 x8 _; exact frp_n
  | succ n ih =>
    intro σ x5 x6 x7 x8 h
    unfold fX12_shift_167
    refine frp_if ?_ ?_
    · skip
      exact frp_s h
    · skip
      refine frp_if ?_ ?_
      · skip
        exact (wfX12_shift_193 hm _ ih _ _ _ _ _ _ h)
      · skip
        exact (wfX12_shift_193 hm _ ih _ _ _ _ _ _ h)
theorem wfX12_shift_55 {m : Nat} {σ0 : S2} (hm : 4194304 ||| m = m) (σ : S2) (x1 : Int32) (x2 : Int32) (x3 : Int32) (x4 : Int32) (x5 : Int32) (h : Fr gM m σ0 σ) : FrP gM m σ0 (fX12_shift_55 σ x1 x2 x3 x4 x5) := by
  unfold fX12_shift_55
  refine frp_ck (fun b1 => ?_)
  refine frp_nm (fun v4 => ?_)
  refine frp_if ?_ ?_
  · skip
    exact frp_s h
  · skip
    refine frp_ck (fun b2 => ?_)
    refine frp_nm (fun v5 => ?_)
    refine frp_ck (fun b3 => ?_)
    refine frp_nm (fun v6 => ?_)
    refine frp_if ?_ ?_
    · skip
      refine frp_if ?_ ?_
      · skip
        exact frp_s h
      · skip
        refine frp_if ?_ ?_
        · skip
          exact frp_s h
        · skip
          refine frp_if ?_ ?_
          · skip
            exact frp_s h
          · skip
            refine frp_ck (fun b4 => ?_)
            refine frp_nm (fun v7 => ?_)
            refine frp_if ?_ ?_
            · skip
              exact frp_s h
            · skip
              refine frp_ck (fun b5 => ?_)
              refine frp_nm (fun v8 => ?_)
              refine frp_if ?_ ?_
              · skip
                exact frp_s h
              · skip
                refine frp_ck (fun b6 => ?_)
                refine frp_nm (fun v9 => ?_)
                refine frp_if ?_ ?_
                · skip
                  exact frp_s h
                · skip
                  refine frp_ck (fun b7 => ?_)
                  refine frp_nm (fun v10 => ?_)
                  refine frp_if ?_ ?_
                  · skip
                    refine frp_nm (fun v11 => ?_)
                    refine frp_nm (fun v12 => ?_)
                    exact (wfX12_shift_167 hm _ _ _ _ _ _ h)
                  · skip
                    exact frp_s h
    · skip
      exact frp_s h
theorem wfX12_shift_34 {m : Nat} {σ0 : S2} (hm : 4194304 ||| m = m) (σ : S2) (x1 : Int32) (x2 : Int32) (x3 : Int32) (x4 : Int32) (x5 : Int32) (h : Fr gM m σ0 σ) : FrP gM m σ0 (fX12_shift_34 σ x1 x2 x3 x4 x5) := by
  unfold fX12_shift_34
  refine frp_ck (fun b1 => ?_)
  refine frp_nm (fun v13 => ?_)
  refine frp_if ?_ ?_
  · skip
    exact (wfX12_shift_55 hm _ _ _ _ _ _ h)
  · skip
    refine frp_ck (fun b2 => ?_)
    refine frp_nm (fun v14 => ?_)
    refine frp_if ?_ ?_
    · skip
      exact (wfX12_shift_55 hm _ _ _ _ _ _ h)
    · skip
      exact frp_s h
theorem wfX12_shift_0 {m : Nat} {σ0 : S2} (hm : 4194304 ||| m = m) (σ : S2) (x1 : Int32) (x2 : Int32) (x3 : Int32) (x4 : Int32) (x5 : Int32) (h : Fr gM m σ0 σ) : FrP gM m σ0 (fX12_shift_0 σ x1 x2 x3 x4 x5) := by
  unfold fX12_shift_0
  refine frp_bi (fun r15 => ?_)
  refine frp_if ?_ ?_
  · skip
    exact frp_s h
  · skip
    refine frp_bi (fun r17 => ?_)
    refine frp_if ?_ ?_
    · skip
      exact frp_s h
    · skip
      refine frp_ck (fun b1 => ?_)
      refine frp_nm (fun v19 => ?_)
      refine frp_if ?_ ?_
      · skip
        exact (wfX12_shift_34 hm _ _ _ _ _ _ h)
      · skip
        refine frp_ck (fun b2 => ?_)
        refine frp_nm (fun v20 => ?_)
        refine frp_if ?_ ?_
        · skip
          exact frp_s h
        · skip
          exact (wfX12_shift_34 hm _ _ _ _ _ _ h)
theorem wfX12_shift {m : Nat} {σ0 : S2} (hm : 4194304 ||| m = m) (σ : S2) (a1 : Int32) (a2 : Int32) (a3 : Int32) (a4 : Int32) (a5 : Int32) (h : Fr gM m σ0 σ) : FrP gM m σ0 (fX12_shift σ a1 a2 a3 a4 a5) := by
  unfold fX12_shift
  exact (wfX12_shift_0 hm _ _ _ _ _ _ h)
theorem wfX12_names_278 {m : Nat} {σ0 : S2} (hm : 5 ||| m = m) (k82 : S2 → Int32 → Int32 → Int32 → Int32 → Int32 → Int32 → Int32 → Option (Int32 × S2)) (hk82 : ∀ (y0 : S2) (y1 : Int32) (y2 : Int32) (y3 : Int32) (y4 : Int32) (y5 : Int32) (y6 : Int32) (y7 : Int32), Fr gM m σ0 y0 → FrP gM m σ0 (k82 y0 y1 y2 y3 y4 y5 y6 y7)) (σ : S2) (x1 : Int32) (x3 : Int32) (x4 : Int32) (x6 : Int32) (x7 : Int32) (x8 : Int32) (s0 : Int32) (s1 : Int32) (h : Fr gM m σ0 σ) : FrP gM m σ0 (fX12_names_278 k82 σ x1 x3 x4 x6 x7 x8 s0 s1) := by
  unfold fX12_names_278
  refine frp_nm (fun v1 => ?_)
  refine frp_nm (fun v2 => ?_)
  exact (hk82 _ _ _ _ _ _ _ _ h)
theorem wfX12_names_263 {m : Nat} {σ0 : S2} (hm : 5 ||| m = m) (k82 : S2 → Int32 → Int32 → Int32 → Int32 → Int32 → Int32 → Int32 → Option (Int32 × S2)) (hk82 : ∀ (y0 : S2) (y1 : Int32) (y2 : Int32) (y3 : Int32) (y4 : Int32) (y5 : Int32) (y6 : Int32) (y7 : Int32), Fr gM m σ0 y0 → FrP gM m σ0 (k82 y0 y1 y2 y3 y4 y5 y6 y7)) (σ : S2) (x1 : Int32) (x3 : Int32) (x4 : Int32) (x5 : Int32) (x6 : Int32) (x7 : Int32) (x8 : Int32) (x9 : Int32) (h : Fr gM m σ0 σ) : FrP gM m σ0 (fX12_names_263 k82 σ x1 x3 x4 x5 x6 x7 x8 x9) := by
  unfold fX12_names_263
  refine frp_if ?_ ?_
  · skip
    exact (wfX12_names_278 hm _ hk82 _ _ _ _ _ _ _ _ _ h)
  · skip
    exact (wfX12_names_278 hm _ hk82 _ _ _ _ _ _ _ _ _ h)
theorem wfX12_names_242 {m : Nat} {σ0 : S2} (hm : 5 ||| m = m) (k82 : S2 → Int32 → Int32 → Int32 → Int32 → Int32 → Int32 → Int32 → Option (Int32 × S2)) (hk82 : ∀ (y0 : S2) (y1 : Int32) (y2 : Int32) (y3 : Int32) (y4 : Int32) (y5 : Int32) (y6 : Int32) (y7 : Int32), Fr gM m σ0 y0 → FrP gM m σ0 (k82 y0 y1 y2 y3 y4 y5 y6 y7)) (σ : S2) (x1 : Int32) (x3 : Int32) (x4 : Int32) (x5 : Int32) (x6 : Int32) (x8 : Int32) (x9 : Int32) (x10 : Int32) (s0 : Int32) (h : Fr gM m σ0 σ) : FrP gM m σ0 (fX12_names_242 k82 σ x1 x3 x4 x5 x6 x8 x9 x10 s0) := by
  unfold fX12_names_242
  refine frp_if ?_ ?_
  · skip
    exact (wfX12_names_263 hm _ hk82 _ _ _ _ _ _ _ _ _ h)
  · skip
    refine frp_if ?_ ?_
    · skip
      exact (wfX12_names_263 hm _ hk82 _ _ _ _ _ _ _ _ _ h)
    · skip
      refine frp_bs (wfX12_comesName (tb_sub (a := 5) rfl hm) _ _ h) (fun r3 σ4 h1 => ?_)
      refine frp_nm (fun v6 => ?_)
      exact (wfX12_names_263 hm _ hk82 _ _ _ _ _ _ _ _ _ h1)
theorem wfX12_names_241 {m : Nat} {σ0 : S2} (hm : 5 ||| m = m) (k82 : S2 → Int32 → Int32 → Int32 → Int32 → Int32 → Int32 → Int32 → Option (Int32 × S2)) (hk82 : ∀ (y0 : S2) (y1 : Int32) (y2 : Int32) (y3 : Int32) (y4 : Int32) (y5 : Int32) (y6 : Int32) (y7 : Int32), Fr gM m σ0 y0 → FrP gM m σ0 (k82 y0 y1 y2 y3 y4 y5 y6 y7)) (σ : S2) (x1 : Int32) (x3 : Int32) (x4 : Int32) (x5 : Int32) (x6 : Int32) (x8 : Int32) (x9 : Int32) (x10 : Int32) (h : Fr gM m σ0 σ) : FrP gM m σ0 (fX12_names_241 k82 σ x1 x3 x4 x5 x6 x8 x9 x10) := by
  unfold fX12_names_241
  exact (wfX12_names_242 hm _ hk82 _ _ _ _ _ _ _ _ _ _ h)
theorem wfX12_names_237 {m : Nat} {σ0 : S2} (hm : 5 ||| m = m) (k82 : S2 → Int32 → Int32 → Int32 → Int32 → Int32 → Int32 → Int32 → Option (Int32 × S2)) (hk82 : ∀ (y0 : S2) (y1 : Int32) (y2 : Int32) (y3 : Int32) (y4 : Int32) (y5 : Int32) (y6 : Int32) (y7 : Int32), Fr gM m σ0 y0 → FrP gM m σ0 (k82 y0 y1 y2 y3 y4 y5 y6 y7)) (σ : S2) (x1 : Int32) (x3 : Int32) (x4 : Int32) (x5 : Int32) (x6 : Int32) (x8 : Int32) (x9 : Int32) (x10 : Int32) (h : Fr gM m σ0 σ) : FrP gM m σ0 (fX12_names_237 k82 σ x1 x3 x4 x5 x6 x8 x9 x10) := by
  unfold fX12_names_237
  exact (wfX12_names_242 hm _ hk82 _ _ _ _ _ _ _ _ _ _ h)
theorem wfX12_names_216 {m : Nat} {σ0 : S2} (hm : 5 ||| m = m) (k82 : S2 → Int32 → Int32 → Int32 → Int32 → Int32 → Int32 → Int32 → Option (Int32 × S2)) (hk82 : ∀ (y0 : S2) (y1 : Int32) (y2 : Int32) (y3 : Int32) (y4 : Int32) (y5 : Int32) (y6 : Int32) (y7 : Int32), Fr gM m σ0 y0 → FrP gM m σ0 (k82 y0 y1 y2 y3 y4 y5 y6 y7)) (σ : S2) (x1 : Int32) (x3 : Int32) (x4 : Int32) (x5 : Int32) (x6 : Int32) (x7 : Int32) (x8 : Int32) (x9 : Int32) (s0 : Int32) (h : Fr gM m σ0 σ) : FrP gM m σ0 (fX12_names_216 k82 σ x1 x3 x4 x5 x6 x7 x8 x9 s0) := by
  unfold fX12_names_216
  refine frp_if ?_ ?_
  · skip
    exact (wfX12_names_241 hm _ hk82 _ _ _ _ _ _ _ _ _ h)
  · skip
    refine frp_if ?_ ?_
    · skip
      exact (wfX12_names_237 hm _ hk82 _ _ _ _ _ _ _ _ _ h)
    · skip
      refine frp_if ?_ ?_
      · skip
        exact (wfX12_names_241 hm _ hk82 _ _ _ _ _ _ _ _ _ h)
      · skip
        exact (wfX12_names_237 hm _ hk82 _ _ _ _ _ _ _ _ _ h)
theorem wfX12_names_215 {m : Nat} {σ0 : S2} (hm : 5 ||| m = m) (k82 : S2 → Int32 → Int32 → Int32 → Int32 → Int32 → Int32 → Int32 → Option (Int32 × S2)) (hk82 : ∀ (y0 : S2) (y1 : Int32) (y2 : Int32) (y3 : Int32) (y4 : Int32) (y5 : Int32) (y6 : Int32) (y7 : Int32), Fr gM m σ0 y0 → FrP gM m σ0 (k82 y0 y1 y2 y3 y4 y5 y6 y7)) (σ : S2) (x1 : Int32) (x3 : Int32) (x4 : Int32) (x5 : Int32) (x6 : Int32) (x7 : Int32) (x8 : Int32) (x9 : Int32) (h : Fr gM m σ0 σ) : FrP gM m σ0 (fX12_names_215 k82 σ x1 x3 x4 x5 x6 x7 x8 x9) := by
  unfold fX12_names_215
  exact (wfX12_names_216 hm _ hk82 _ _ _ _ _ _ _ _ _ _ h)
theorem wfX12_names_197 {m : Nat} {σ0 : S2} (hm : 5 ||| m = m) (k82 : S2 → Int32 → Int32 → Int32 → Int32 → Int32 → Int32 → Int32 → Option (Int32 × S2)) (hk82 : ∀ (y0 : S2) (y1 : Int32) (y2 : Int32) (y3 : Int32) (y4 : Int32) (y5 : Int32) (y6 : Int32) (y7 : Int32), Fr gM m σ0 y0 → FrP gM m σ0 (k82 y0 y1 y2 y3 y4 y5 y6 y7)) (σ : S2) (x1 : Int32) (x3 : Int32) (x4 : Int32) (x5 : Int32) (x6 : Int32) (x7 : Int32) (x8 : Int32) (x9 : Int32) (h : Fr gM m σ0 σ) : FrP gM m σ0 (fX12_names_197 k82 σ x1 x3 x4 x5 x6 x7 x8 x9) := by
  unfold fX12_names_197
  refine frp_if ?_ ?_
  · skip
    exact (wfX12_names_215 hm _ hk82 _ _ _ _ _ _ _ _ _ h)
  · skip
    refine frp_bi (fun r7 => ?_)
    refine frp_if ?_ ?_
    · skip
      exact (wfX12_names_215 hm _ hk82 _ _ _ _ _ _ _ _ _ h)
    · skip
      exact (wfX12_names_216 hm _ hk82 _ _ _ _ _ _ _ _ _ _ h)
theorem wfX12_names_150 {m : Nat} {σ0 : S2} (hm : 5 ||| m = m) (k82 : S2 → Int32 → Int32 → Int32 → Int32 → Int32 → Int32 → Int32 → Option (Int32 × S2)) (hk82 : ∀ (y0 : S2) (y1 : Int32) (y2 : Int32) (y3 : Int32) (y4 : Int32) (y5 : Int32) (y6 : Int32) (y7 : Int32), Fr gM m σ0 y0 → FrP gM m σ0 (k82 y0 y1 y2 y3 y4 y5 y6 y7)) : ∀ (n : Nat) (σ : S2) (x1 : Int32) (x3 : Int32) (x4 : Int32) (x5 : Int32) (x6 : Int32) (x7 : Int32) (x8 : Int32) (x9 : Int32) (x10 : Int32), Fr gM m σ0 σ → FrP gM m σ0 (fX12_names_150 k82 n σ x1 x3 x4 x5 x6 x7 x8 x9 x10) := by
  intro n
  induction n with
  | zero => intro σ x1 x3 x4 x5 x6 x7 x8 x9 x10 _; exact frp_n
  | succ n ih =>
    intro σ x1 x3 x4 x5 x6 x7 x8 x9 x10 h
    unfold fX12_names_150
    refine frp_if ?_ ?_
    · skip
      exact (wfX12_names_197 hm _ hk82 _ _ _ _ _ _ _ _ _ h)
    · skip
      refine frp_if ?_ ?_
      · skip
        exact (wfX12_names_197 hm _ hk82 _ _ _ _ _ _ _ _ _ h)
      · skip
        refine frp_ck (fun b1 => ?_)
        refine frp_nm (fun v9 => ?_)
        refine frp_ck (fun b2 => ?_)
        refine frp_w (Fr.wI h (tb_of (g := 0) hm rfl)) (fun σ10 h3 => ?_)
        refine frp_nm (fun v11 => ?_)
        exact (ih _ _ _ _ _ _ _ _ _ _ h3)
theorem wfX12_names_145 {m : Nat} {σ0 : S2} (hm : 5 ||| m = m) (k82 : S2 → Int32 → Int32 → Int32 → Int32 → Int32 → Int32 → Int32 → Option (Int32 × S2)) (hk82 : ∀ (y0 : S2) (y1 : Int32) (y2 : Int32) (y3 : Int32) (y4 : Int32) (y5 : Int32) (y6 : Int32) (y7 : Int32), Fr gM m σ0 y0 → FrP gM m σ0 (k82 y0 y1 y2 y3 y4 y5 y6 y7)) (σ : S2) (x1 : Int32) (x3 : Int32) (x4 : Int32) (x5 : Int32) (x6 : Int32) (x8 : Int32) (x9 : Int32) (s0 : Int32) (h : Fr gM m σ0 σ) : FrP gM m σ0 (fX12_names_145 k82 σ x1 x3 x4 x5 x6 x8 x9 s0) := by
  unfold fX12_names_145
  exact (wfX12_names_150 hm _ hk82 _ _ _ _ _ _ _ _ _ _ _ h)
theorem wfX12_names_144 {m : Nat} {σ0 : S2} (hm : 5 ||| m = m) (k82 : S2 → Int32 → Int32 → Int32 → Int32 → Int32 → Int32 → Int32 → Option (Int32 × S2)) (hk82 : ∀ (y0 : S2) (y1 : Int32) (y2 : Int32) (y3 : Int32) (y4 : Int32) (y5 : Int32) (y6 : Int32) (y7 : Int32), Fr gM m σ0 y0 → FrP gM m σ0 (k82 y0 y1 y2 y3 y4 y5 y6 y7)) (σ : S2) (x1 : Int32) (x3 : Int32) (x4 : Int32) (x5 : Int32) (x6 : Int32) (x8 : Int32) (x9 : Int32) (h : Fr gM m σ0 σ) : FrP gM m σ0 (fX12_names_144 k82 σ x1 x3 x4 x5 x6 x8 x9) := by
  unfold fX12_names_144
  exact (wfX12_names_145 hm _ hk82 _ _ _ _ _ _ _ _ _ h)
theorem wfX12_names_117 {m : Nat} {σ0 : S2} (hm : 5 ||| m = m) (k82 : S2 → Int32 → Int32 → Int32 → Int32 → Int32 → Int32 → Int32 → Option (Int32 × S2)) (hk82 : ∀ (y0 : S2) (y1 : Int32) (y2 : Int32) (y3 : Int32) (y4 : Int32) (y5 : Int32) (y6 : Int32) (y7 : Int32), Fr gM m σ0 y0 → FrP gM m σ0 (k82 y0 y1 y2 y3 y4 y5 y6 y7)) (σ : S2) (x1 : Int32) (x3 : Int32) (x4 : Int32) (x5 : Int32) (x6 : Int32) (x8 : Int32) (s0 : Int32) (h : Fr gM m σ0 σ) : FrP gM m σ0 (fX12_names_117 k82 σ x1 x3 x4 x5 x6 x8 s0) := by
  unfold fX12_names_117
  refine frp_bi (fun r12 => ?_)
  refine frp_if ?_ ?_
  · skip
    exact (wfX12_names_144 hm _ hk82 _ _ _ _ _ _ _ _ h)
  · skip
    refine frp_if ?_ ?_
    · skip
      exact (wfX12_names_144 hm _ hk82 _ _ _ _ _ _ _ _ h)
    · skip
      exact (wfX12_names_145 hm _ hk82 _ _ _ _ _ _ _ _ _ h)
theorem wfX12_names_82 {m : Nat} {σ0 : S2} (hm : 5 ||| m = m) : ∀ (n : Nat) (σ : S2) (x1 : Int32) (x3 : Int32) (x4 : Int32) (x5 : Int32) (x6 : Int32) (x7 : Int32) (x8 : Int32), Fr gM m σ0 σ → FrP gM m σ0 (fX12_names_82 n σ x1 x3 x4 x5 x6 x7 x8) := by
  intro n
  induction n with
  | zero => intro σ x1 x3 x4 x5 x6 x7 x8 _; exact frp_n
  | succ n ih =>
    intro σ x1 x3 x4 x5 x6 x7 x8 h
    unfold fX12_names_82
    refine frp_if ?_ ?_
    · skip
      exact frp_s h
    · skip
      refine frp_if ?_ ?_
      · skip
        exact frp_s h
      · skip
        refine frp_if ?_ ?_
        · skip
          exact (wfX12_names_117 hm _ ih _ _ _ _ _ _ _ _ h)
        · skip
          refine frp_ck (fun b1 => ?_)
          refine frp_nm (fun v14 => ?_)
          exact (wfX12_names_117 hm _ ih _ _ _ _ _ _ _ _ h)
theorem wfX12_names_71 {m : Nat} {σ0 : S2} (hm : 5 ||| m = m) (σ : S2) (x1 : Int32) (x3 : Int32) (x4 : Int32) (s0 : Int32) (h : Fr gM m σ0 σ) : FrP gM m σ0 (fX12_names_71 σ x1 x3 x4 s0) := by
  unfold fX12_names_71
  exact (wfX12_names_82 hm _ _ _ _ _ _ _ _ _ h)
theorem wfX12_names_59 {m : Nat} {σ0 : S2} (hm : 5 ||| m = m) (σ : S2) (x1 : Int32) (x2 : Int32) (x3 : Int32) (s0 : Int32) (h : Fr gM m σ0 σ) : FrP gM m σ0 (fX12_names_59 σ x1 x2 x3 s0) := by
  unfold fX12_names_59
  refine frp_if ?_ ?_
  · skip
    exact (wfX12_names_71 hm _ _ _ _ _ h)
  · skip
    exact (wfX12_names_71 hm _ _ _ _ _ h)
theorem wfX12_names_0 {m : Nat} {σ0 : S2} (hm : 5 ||| m = m) (σ : S2) (x1 : Int32) (x2 : Int32) (x3 : Int32) (h : Fr gM m σ0 σ) : FrP gM m σ0 (fX12_names_0 σ x1 x2 x3) := by
  unfold fX12_names_0
  refine frp_bi (fun r15 => ?_)
  refine frp_if ?_ ?_
  · skip
    exact frp_s h
  · skip
    refine frp_bi (fun r17 => ?_)
    refine frp_if ?_ ?_
    · skip
      exact frp_s h
    · skip
      refine frp_ck (fun b1 => ?_)
      refine frp_nm (fun v19 => ?_)
      refine frp_if ?_ ?_
      · skip
        exact frp_s h
      · skip
        refine frp_ck (fun b2 => ?_)
        refine frp_nm (fun v20 => ?_)
        refine frp_if ?_ ?_
        · skip
          refine frp_ck (fun b3 => ?_)
          refine frp_nm (fun v21 => ?_)
          refine frp_if ?_ ?_
          · skip
            refine frp_ck (fun b4 => ?_)
            refine frp_nm (fun v22 => ?_)
            exact (wfX12_names_59 hm _ _ _ _ _ h)
          · skip
            exact (wfX12_names_59 hm _ _ _ _ _ h)
        · skip
          exact frp_s h
theorem wfX12_names {m : Nat} {σ0 : S2} (hm : 5 ||| m = m) (σ : S2) (a1 : Int32) (a2 : Int32) (a3 : Int32) (h : Fr gM m σ0 σ) : FrP gM m σ0 (fX12_names σ a1 a2 a3) := by
  unfold fX12_names
  exact (wfX12_names_0 hm _ _ _ _ h)
end
section
theorem wfX0_begin_19 {m : Nat} {σ0 : S2} (hm : 1048576 ||| m = m) (τ : Nat) (σ : S2) (h : Fr gC m σ0 σ) : FrP gC m σ0 (fX0_begin_19 τ σ) := by
  unfold fX0_begin_19
  refine frp_w (Fr.wI h (tb_of (g := 20) hm rfl)) (fun σ1 h1 => ?_)
  exact frp_s h1
theorem wfX0_begin_0 {m : Nat} {σ0 : S2} (hm : 1048576 ||| m = m) (τ : Nat) (σ : S2) (x1 : Int32) (h : Fr gC m σ0 σ) : FrP gC m σ0 (fX0_begin_0 τ σ x1) := by
  unfold fX0_begin_0
  refine frp_if ?_ ?_
  · skip
    exact (wfX0_begin_19 hm _ _ h)
  · skip
    refine frp_ck (fun b1 => ?_)
    refine frp_w (Fr.wI h (tb_of (g := 20) hm rfl)) (fun σ2 h2 => ?_)
    exact (wfX0_begin_19 hm _ _ h2)
theorem wfX0_begin {m : Nat} {σ0 : S2} (hm : 1048576 ||| m = m) (τ : Nat) (σ : S2) (a1 : Int32) (h : Fr gC m σ0 σ) : FrP gC m σ0 (fX0_begin τ σ a1) := by
  unfold fX0_begin
  exact (wfX0_begin_0 hm _ _ _ h)
theorem wfX0_findsFrom_0 {m : Nat} {σ0 : S2} (hm : 1048576 ||| m = m) (τ : Nat) (qX0_findsFrom : S2 → Int32 → Int32 → Option (Int32 × S2)) (hqX0_findsFrom : ∀ (y0 : S2) (y1 : Int32) (y2 : Int32), Fr gC m σ0 y0 → FrP gC m σ0 (qX0_findsFrom y0 y1 y2)) (σ : S2) (x1 : Int32) (x2 : Int32) (h : Fr gC m σ0 σ) : FrP gC m σ0 (fX0_findsFrom_0 τ qX0_findsFrom σ x1 x2) := by
  unfold fX0_findsFrom_0
  refine frp_if ?_ ?_
  · skip
    refine frp_bs (wfX0_begin hm _ _ _ h) (fun r2 σ3 h1 => ?_)
    refine frp_bs (hqX0_findsFrom _ _ _ h1) (fun r5 σ6 h2 => ?_)
    exact frp_s h2
  · skip
    refine frp_if ?_ ?_
    · skip
      refine frp_bs (wfX0_begin hm _ _ _ h) (fun r9 σ10 h3 => ?_)
      refine frp_bs (hqX0_findsFrom _ _ _ h3) (fun r12 σ13 h4 => ?_)
      exact frp_s h4
    · skip
      refine frp_if ?_ ?_
      · skip
        refine frp_bs (wfX0_begin hm _ _ _ h) (fun r16 σ17 h5 => ?_)
        refine frp_bs (hqX0_findsFrom _ _ _ h5) (fun r19 σ20 h6 => ?_)
        exact frp_s h6
      · skip
        refine frp_bs (wfX0_begin hm _ _ _ h) (fun r22 σ23 h7 => ?_)
        exact frp_s h7
theorem weX0_findsFrom {m : Nat} {σ0 : S2} (hm : 1048576 ||| m = m) (τ : Nat) (qX0_findsFrom : S2 → Int32 → Int32 → Option (Int32 × S2)) (hqX0_findsFrom : ∀ (y0 : S2) (y1 : Int32) (y2 : Int32), Fr gC m σ0 y0 → FrP gC m σ0 (qX0_findsFrom y0 y1 y2)) (σ : S2) (a1 : Int32) (a2 : Int32) (h : Fr gC m σ0 σ) : FrP gC m σ0 (eX0_findsFrom τ qX0_findsFrom σ a1 a2) := by
  unfold eX0_findsFrom
  exact (wfX0_findsFrom_0 hm _ _ hqX0_findsFrom _ _ _ h)
theorem wGX0_findsFrom {m : Nat} {σ0 : S2} (hm : 1048576 ||| m = m) (τ : Nat) : ∀ (d j : Nat) (σ : S2) (a1 : Int32) (a2 : Int32), Fr gC m σ0 σ → FrP gC m σ0 (GX0_findsFrom τ d j σ a1 a2) := by
  intro d
  induction d with
  | zero => intro j σ a1 a2 _; exact frp_n
  | succ d ih =>
    intro j σ a1 a2 h
    unfold GX0_findsFrom; exact (weX0_findsFrom hm _ _ (ih 0) _ _ _ h)
theorem wfX0_findsFrom {m : Nat} {σ0 : S2} (hm : 1048576 ||| m = m) (τ : Nat) (σ : S2) (a1 : Int32) (a2 : Int32) (h : Fr gC m σ0 σ) : FrP gC m σ0 (fX0_findsFrom τ σ a1 a2) := by
  unfold fX0_findsFrom
  exact (wGX0_findsFrom hm _ _ _ _ _ _ h)
theorem wfX0_movesFrom_0 {m : Nat} {σ0 : S2} (hm : 1048576 ||| m = m) (τ : Nat) (qX0_movesFrom : S2 → Int32 → Int32 → Option (Int32 × S2)) (hqX0_movesFrom : ∀ (y0 : S2) (y1 : Int32) (y2 : Int32), Fr gC m σ0 y0 → FrP gC m σ0 (qX0_movesFrom y0 y1 y2)) (σ : S2) (x1 : Int32) (x2 : Int32) (h : Fr gC m σ0 σ) : FrP gC m σ0 (fX0_movesFrom_0 τ qX0_movesFrom σ x1 x2) := by
  unfold fX0_movesFrom_0
  refine frp_if ?_ ?_
  · skip
    refine frp_bs (wfX0_begin hm _ _ _ h) (fun r2 σ3 h1 => ?_)
    refine frp_bs (hqX0_movesFrom _ _ _ h1) (fun r5 σ6 h2 => ?_)
    exact frp_s h2
  · skip
    refine frp_if ?_ ?_
    · skip
      refine frp_bs (wfX0_begin hm _ _ _ h) (fun r9 σ10 h3 => ?_)
      refine frp_bs (hqX0_movesFrom _ _ _ h3) (fun r12 σ13 h4 => ?_)
      refine frp_bs (wfX0_findsFrom hm _ _ _ _ h4) (fun r15 σ16 h5 => ?_)
      exact frp_s h5
    · skip
      refine frp_bs (wfX0_begin hm _ _ _ h) (fun r18 σ19 h6 => ?_)
      exact frp_s h6
theorem weX0_movesFrom {m : Nat} {σ0 : S2} (hm : 1048576 ||| m = m) (τ : Nat) (qX0_movesFrom : S2 → Int32 → Int32 → Option (Int32 × S2)) (hqX0_movesFrom : ∀ (y0 : S2) (y1 : Int32) (y2 : Int32), Fr gC m σ0 y0 → FrP gC m σ0 (qX0_movesFrom y0 y1 y2)) (σ : S2) (a1 : Int32) (a2 : Int32) (h : Fr gC m σ0 σ) : FrP gC m σ0 (eX0_movesFrom τ qX0_movesFrom σ a1 a2) := by
  unfold eX0_movesFrom
  exact (wfX0_movesFrom_0 hm _ _ hqX0_movesFrom _ _ _ h)
theorem wGX0_movesFrom {m : Nat} {σ0 : S2} (hm : 1048576 ||| m = m) (τ : Nat) : ∀ (d j : Nat) (σ : S2) (a1 : Int32) (a2 : Int32), Fr gC m σ0 σ → FrP gC m σ0 (GX0_movesFrom τ d j σ a1 a2) := by
  intro d
  induction d with
  | zero => intro j σ a1 a2 _; exact frp_n
  | succ d ih =>
    intro j σ a1 a2 h
    unfold GX0_movesFrom; exact (weX0_movesFrom hm _ _ (ih 0) _ _ _ h)
theorem wfX0_movesFrom {m : Nat} {σ0 : S2} (hm : 1048576 ||| m = m) (τ : Nat) (σ : S2) (a1 : Int32) (a2 : Int32) (h : Fr gC m σ0 σ) : FrP gC m σ0 (fX0_movesFrom τ σ a1 a2) := by
  unfold fX0_movesFrom
  exact (wGX0_movesFrom hm _ _ _ _ _ _ h)
theorem wfX0_keepsFrom_0 {m : Nat} {σ0 : S2} (hm : 1048576 ||| m = m) (τ : Nat) (qX0_keepsFrom : S2 → Int32 → Int32 → Option (Int32 × S2)) (hqX0_keepsFrom : ∀ (y0 : S2) (y1 : Int32) (y2 : Int32), Fr gC m σ0 y0 → FrP gC m σ0 (qX0_keepsFrom y0 y1 y2)) (σ : S2) (x1 : Int32) (x2 : Int32) (h : Fr gC m σ0 σ) : FrP gC m σ0 (fX0_keepsFrom_0 τ qX0_keepsFrom σ x1 x2) := by
  unfold fX0_keepsFrom_0
  refine frp_if ?_ ?_
  · skip
    refine frp_bs (wfX0_begin hm _ _ _ h) (fun r2 σ3 h1 => ?_)
    refine frp_bs (hqX0_keepsFrom _ _ _ h1) (fun r5 σ6 h2 => ?_)
    exact frp_s h2
  · skip
    refine frp_if ?_ ?_
    · skip
      refine frp_bs (wfX0_begin hm _ _ _ h) (fun r9 σ10 h3 => ?_)
      refine frp_bs (hqX0_keepsFrom _ _ _ h3) (fun r12 σ13 h4 => ?_)
      refine frp_bs (wfX0_movesFrom hm _ _ _ _ h4) (fun r15 σ16 h5 => ?_)
      exact frp_s h5
    · skip
      refine frp_bs (wfX0_begin hm _ _ _ h) (fun r18 σ19 h6 => ?_)
      refine frp_bs (wfX0_findsFrom hm _ _ _ _ h6) (fun r21 σ22 h7 => ?_)
      exact frp_s h7
theorem weX0_keepsFrom {m : Nat} {σ0 : S2} (hm : 1048576 ||| m = m) (τ : Nat) (qX0_keepsFrom : S2 → Int32 → Int32 → Option (Int32 × S2)) (hqX0_keepsFrom : ∀ (y0 : S2) (y1 : Int32) (y2 : Int32), Fr gC m σ0 y0 → FrP gC m σ0 (qX0_keepsFrom y0 y1 y2)) (σ : S2) (a1 : Int32) (a2 : Int32) (h : Fr gC m σ0 σ) : FrP gC m σ0 (eX0_keepsFrom τ qX0_keepsFrom σ a1 a2) := by
  unfold eX0_keepsFrom
  exact (wfX0_keepsFrom_0 hm _ _ hqX0_keepsFrom _ _ _ h)
theorem wGX0_keepsFrom {m : Nat} {σ0 : S2} (hm : 1048576 ||| m = m) (τ : Nat) : ∀ (d j : Nat) (σ : S2) (a1 : Int32) (a2 : Int32), Fr gC m σ0 σ → FrP gC m σ0 (GX0_keepsFrom τ d j σ a1 a2) := by
  intro d
  induction d with
  | zero => intro j σ a1 a2 _; exact frp_n
  | succ d ih =>
    intro j σ a1 a2 h
    unfold GX0_keepsFrom; exact (weX0_keepsFrom hm _ _ (ih 0) _ _ _ h)
theorem wfX0_keepsFrom {m : Nat} {σ0 : S2} (hm : 1048576 ||| m = m) (τ : Nat) (σ : S2) (a1 : Int32) (a2 : Int32) (h : Fr gC m σ0 σ) : FrP gC m σ0 (fX0_keepsFrom τ σ a1 a2) := by
  unfold fX0_keepsFrom
  exact (wGX0_keepsFrom hm _ _ _ _ _ _ h)
theorem wfX0_tellsFrom_0 {m : Nat} {σ0 : S2} (hm : 1048576 ||| m = m) (τ : Nat) (qX0_tellsFrom : S2 → Int32 → Int32 → Option (Int32 × S2)) (hqX0_tellsFrom : ∀ (y0 : S2) (y1 : Int32) (y2 : Int32), Fr gC m σ0 y0 → FrP gC m σ0 (qX0_tellsFrom y0 y1 y2)) (σ : S2) (x1 : Int32) (x2 : Int32) (h : Fr gC m σ0 σ) : FrP gC m σ0 (fX0_tellsFrom_0 τ qX0_tellsFrom σ x1 x2) := by
  unfold fX0_tellsFrom_0
  refine frp_if ?_ ?_
  · skip
    refine frp_bs (wfX0_begin hm _ _ _ h) (fun r10 σ11 h1 => ?_)
    refine frp_bs (hqX0_tellsFrom _ _ _ h1) (fun r13 σ14 h2 => ?_)
    exact frp_s h2
  · skip
    refine frp_bs (wfX0_begin hm _ _ _ h) (fun r1 σ2 h3 => ?_)
    refine frp_bs (wfX0_keepsFrom hm _ _ _ _ h3) (fun r4 σ5 h4 => ?_)
    refine frp_bs (wfX0_movesFrom hm _ _ _ _ h4) (fun r7 σ8 h5 => ?_)
    exact frp_s h5
theorem weX0_tellsFrom {m : Nat} {σ0 : S2} (hm : 1048576 ||| m = m) (τ : Nat) (qX0_tellsFrom : S2 → Int32 → Int32 → Option (Int32 × S2)) (hqX0_tellsFrom : ∀ (y0 : S2) (y1 : Int32) (y2 : Int32), Fr gC m σ0 y0 → FrP gC m σ0 (qX0_tellsFrom y0 y1 y2)) (σ : S2) (a1 : Int32) (a2 : Int32) (h : Fr gC m σ0 σ) : FrP gC m σ0 (eX0_tellsFrom τ qX0_tellsFrom σ a1 a2) := by
  unfold eX0_tellsFrom
  exact (wfX0_tellsFrom_0 hm _ _ hqX0_tellsFrom _ _ _ h)
theorem wGX0_tellsFrom {m : Nat} {σ0 : S2} (hm : 1048576 ||| m = m) (τ : Nat) : ∀ (d j : Nat) (σ : S2) (a1 : Int32) (a2 : Int32), Fr gC m σ0 σ → FrP gC m σ0 (GX0_tellsFrom τ d j σ a1 a2) := by
  intro d
  induction d with
  | zero => intro j σ a1 a2 _; exact frp_n
  | succ d ih =>
    intro j σ a1 a2 h
    unfold GX0_tellsFrom; exact (weX0_tellsFrom hm _ _ (ih 0) _ _ _ h)
theorem wfX0_tellsFrom {m : Nat} {σ0 : S2} (hm : 1048576 ||| m = m) (τ : Nat) (σ : S2) (a1 : Int32) (a2 : Int32) (h : Fr gC m σ0 σ) : FrP gC m σ0 (fX0_tellsFrom τ σ a1 a2) := by
  unfold fX0_tellsFrom
  exact (wGX0_tellsFrom hm _ _ _ _ _ _ h)
theorem wfX0_run_0 {m : Nat} {σ0 : S2} (hm : 1048577 ||| m = m) (τ : Nat) (σ : S2) (x1 : Int32) (x2 : Int32) (x3 : Int32) (x4 : Int32) (x5 : Int32) (h : Fr gC m σ0 σ) : FrP gC m σ0 (fX0_run_0 τ σ x1 x2 x3 x4 x5) := by
  unfold fX0_run_0
  refine frp_w (Fr.wI h (tb_of (g := 0) hm rfl)) (fun σ1 h1 => ?_)
  refine frp_w (Fr.wI h1 (tb_of (g := 0) hm rfl)) (fun σ2 h2 => ?_)
  refine frp_w (Fr.wI h2 (tb_of (g := 0) hm rfl)) (fun σ3 h3 => ?_)
  refine frp_if ?_ ?_
  · skip
    refine frp_bs (wfX0_findsFrom (tb_sub (a := 1048577) rfl hm) _ _ _ _ h3) (fun r5 σ6 h4 => ?_)
    exact frp_s h4
  · skip
    refine frp_if ?_ ?_
    · skip
      refine frp_bs (wfX0_keepsFrom (tb_sub (a := 1048577) rfl hm) _ _ _ _ h3) (fun r9 σ10 h5 => ?_)
      exact frp_s h5
    · skip
      refine frp_if ?_ ?_
      · skip
        refine frp_bs (wfX0_movesFrom (tb_sub (a := 1048577) rfl hm) _ _ _ _ h3) (fun r13 σ14 h6 => ?_)
        exact frp_s h6
      · skip
        refine frp_if ?_ ?_
        · skip
          refine frp_bs (wfX0_tellsFrom (tb_sub (a := 1048577) rfl hm) _ _ _ _ h3) (fun r17 σ18 h7 => ?_)
          exact frp_s h7
        · skip
          exact frp_s h3
theorem wfX0_run {m : Nat} {σ0 : S2} (hm : 1048577 ||| m = m) (τ : Nat) (σ : S2) (a1 : Int32) (a2 : Int32) (a3 : Int32) (a4 : Int32) (a5 : Int32) (h : Fr gC m σ0 σ) : FrP gC m σ0 (fX0_run τ σ a1 a2 a3 a4 a5) := by
  unfold fX0_run
  exact (wfX0_run_0 hm _ _ _ _ _ _ _ h)
theorem wfX1_pickBySums_132 {m : Nat} {σ0 : S2} (hm : 1 ||| m = m) (τ : Nat) (b1 : Nat) (k2 : S2 → Int32 → Int32 → Option (Unit × S2)) (hk2 : ∀ (y0 : S2) (y1 : Int32) (y2 : Int32), Fr gC m σ0 y0 → FrP gC m σ0 (k2 y0 y1 y2)) (σ : S2) (x2 : Int32) (x3 : Int32) (h : Fr gC m σ0 σ) : FrP gC m σ0 (fX1_pickBySums_132 τ b1 k2 σ x2 x3) := by
  unfold fX1_pickBySums_132
  refine frp_nm (fun v1 => ?_)
  exact (hk2 _ _ _ h)
theorem wfX1_pickBySums_105 {m : Nat} {σ0 : S2} (hm : 1 ||| m = m) (τ : Nat) (b1 : Nat) (k2 : S2 → Int32 → Int32 → Option (Unit × S2)) (hk2 : ∀ (y0 : S2) (y1 : Int32) (y2 : Int32), Fr gC m σ0 y0 → FrP gC m σ0 (k2 y0 y1 y2)) (σ : S2) (x2 : Int32) (x3 : Int32) (x4 : Int32) (x5 : Int32) (h : Fr gC m σ0 σ) : FrP gC m σ0 (fX1_pickBySums_105 τ b1 k2 σ x2 x3 x4 x5) := by
  unfold fX1_pickBySums_105
  refine frp_ck (fun b1 => ?_)
  refine frp_w (Fr.wI h (tb_of (g := 0) hm rfl)) (fun σ2 h2 => ?_)
  refine frp_ck (fun b3 => ?_)
  refine frp_w (Fr.wI h2 (tb_of (g := 0) hm rfl)) (fun σ3 h4 => ?_)
  refine frp_w (Fr.wI h4 (tb_of (g := 0) hm rfl)) (fun σ4 h5 => ?_)
  exact (wfX1_pickBySums_132 hm _ _ _ hk2 _ _ _ h5)
theorem wfX1_pickBySums_42 {m : Nat} {σ0 : S2} (hm : 1 ||| m = m) (τ : Nat) (b1 : Nat) (k2 : S2 → Int32 → Int32 → Option (Unit × S2)) (hk2 : ∀ (y0 : S2) (y1 : Int32) (y2 : Int32), Fr gC m σ0 y0 → FrP gC m σ0 (k2 y0 y1 y2)) : ∀ (n : Nat) (σ : S2) (x2 : Int32) (x3 : Int32) (x4 : Int32) (x5 : Int32) (x6 : Int32), Fr gC m σ0 σ → FrP gC m σ0 (fX1_pickBySums_42 τ b1 k2 n σ x2 x3 x4 x5 x6) := by
  intro n
  induction n with
  | zero => intro σ x2 x3 x4 x5 x6 _; exact frp_n
  | succ n ih =>
    intro σ x2 x3 x4 x5 x6 h
    unfold fX1_pickBySums_42
    refine frp_if ?_ ?_
    · skip
      exact (wfX1_pickBySums_105 hm _ _ _ hk2 _ _ _ _ _ h)
    · skip
      refine frp_ck (fun b1 => ?_)
      refine frp_nm (fun v5 => ?_)
      refine frp_if ?_ ?_
      · skip
        exact (wfX1_pickBySums_105 hm _ _ _ hk2 _ _ _ _ _ h)
      · skip
        refine frp_ck (fun b2 => ?_)
        refine frp_nm (fun v6 => ?_)
        refine frp_ck (fun b3 => ?_)
        refine frp_w (Fr.wI h (tb_of (g := 0) hm rfl)) (fun σ7 h4 => ?_)
        refine frp_ck (fun b5 => ?_)
        refine frp_nm (fun v8 => ?_)
        refine frp_ck (fun b6 => ?_)
        refine frp_w (Fr.wI h4 (tb_of (g := 0) hm rfl)) (fun σ9 h7 => ?_)
        refine frp_nm (fun v10 => ?_)
        refine frp_nm (fun v11 => ?_)
        exact (ih _ _ _ _ _ _ h7)
theorem wfX1_pickBySums_2 {m : Nat} {σ0 : S2} (hm : 1 ||| m = m) (τ : Nat) (b1 : Nat) : ∀ (n : Nat) (σ : S2) (x2 : Int32) (x3 : Int32), Fr gC m σ0 σ → FrP gC m σ0 (fX1_pickBySums_2 τ b1 n σ x2 x3) := by
  intro n
  induction n with
  | zero => intro σ x2 x3 _; exact frp_n
  | succ n ih =>
    intro σ x2 x3 h
    unfold fX1_pickBySums_2
    refine frp_if ?_ ?_
    · skip
      refine frp_w (Fr.wI h (tb_of (g := 0) hm rfl)) (fun σ12 h1 => ?_)
      exact frp_s h1
    · skip
      refine frp_if ?_ ?_
      · skip
        exact (wfX1_pickBySums_132 hm _ _ _ ih _ _ _ h)
      · skip
        refine frp_bi (fun r13 => ?_)
        refine frp_nm (fun v15 => ?_)
        refine frp_nm (fun v16 => ?_)
        exact (wfX1_pickBySums_42 hm _ _ _ ih _ _ _ _ _ _ _ h)
theorem wfX1_pickBySums_0 {m : Nat} {σ0 : S2} (hm : 1 ||| m = m) (τ : Nat) (b1 : Nat) (σ : S2) (x2 : Int32) (h : Fr gC m σ0 σ) : FrP gC m σ0 (fX1_pickBySums_0 τ b1 σ x2) := by
  unfold fX1_pickBySums_0
  exact (wfX1_pickBySums_2 hm _ _ _ _ _ _ h)
theorem wfX1_pickBySums {m : Nat} {σ0 : S2} (hm : 1 ||| m = m) (τ : Nat) (b1 : Nat) (σ : S2) (a2 : Int32) (h : Fr gC m σ0 σ) : FrP gC m σ0 (fX1_pickBySums τ b1 σ a2) := by
  unfold fX1_pickBySums
  exact (wfX1_pickBySums_0 hm _ _ _ _ h)
theorem wfX1_takePick_0 {m : Nat} {σ0 : S2} (hm : 1 ||| m = m) (τ : Nat) (σ : S2) (x1 : Int32) (h : Fr gC m σ0 σ) : FrP gC m σ0 (fX1_takePick_0 τ σ x1) := by
  unfold fX1_takePick_0
  refine frp_if ?_ ?_
  · skip
    refine frp_ck (fun b1 => ?_)
    refine frp_w (Fr.wI h (tb_of (g := 0) hm rfl)) (fun σ1 h2 => ?_)
    refine frp_w (Fr.wI h2 (tb_of (g := 0) hm rfl)) (fun σ2 h3 => ?_)
    refine frp_w (Fr.wI h3 (tb_of (g := 0) hm rfl)) (fun σ3 h4 => ?_)
    exact frp_s h4
  · skip
    exact frp_s h
theorem wfX1_takePick {m : Nat} {σ0 : S2} (hm : 1 ||| m = m) (τ : Nat) (σ : S2) (a1 : Int32) (h : Fr gC m σ0 σ) : FrP gC m σ0 (fX1_takePick τ σ a1) := by
  unfold fX1_takePick
  exact (wfX1_takePick_0 hm _ _ _ h)
theorem wfX1_pickFirstFrom_5 {m : Nat} {σ0 : S2} (hm : 1 ||| m = m) (τ : Nat) (b1 : Nat) : ∀ (n : Nat) (σ : S2) (x3 : Int32) (x4 : Int32), Fr gC m σ0 σ → FrP gC m σ0 (fX1_pickFirstFrom_5 τ b1 n σ x3 x4) := by
  intro n
  induction n with
  | zero => intro σ x3 x4 _; exact frp_n
  | succ n ih =>
    intro σ x3 x4 h
    unfold fX1_pickFirstFrom_5
    refine frp_if ?_ ?_
    · skip
      exact frp_s h
    · skip
      refine frp_ck (fun b1 => ?_)
      refine frp_nm (fun v1 => ?_)
      refine frp_ck (fun b2 => ?_)
      refine frp_nm (fun v2 => ?_)
      refine frp_bi (fun r3 => ?_)
      refine frp_if ?_ ?_
      · skip
        refine frp_ck (fun b3 => ?_)
        refine frp_nm (fun v8 => ?_)
        refine frp_bs (wfX1_takePick hm _ _ _ h) (fun r9 σ10 h4 => ?_)
        exact frp_s h4
      · skip
        refine frp_bi (fun r5 => ?_)
        refine frp_nm (fun v7 => ?_)
        exact (ih _ _ _ h)
theorem wfX1_pickFirstFrom_0 {m : Nat} {σ0 : S2} (hm : 1 ||| m = m) (τ : Nat) (b1 : Nat) (σ : S2) (x2 : Int32) (h : Fr gC m σ0 σ) : FrP gC m σ0 (fX1_pickFirstFrom_0 τ b1 σ x2) := by
  unfold fX1_pickFirstFrom_0
  exact (wfX1_pickFirstFrom_5 hm _ _ _ _ _ _ h)
theorem wfX1_pickFirstFrom {m : Nat} {σ0 : S2} (hm : 1 ||| m = m) (τ : Nat) (b1 : Nat) (σ : S2) (a2 : Int32) (h : Fr gC m σ0 σ) : FrP gC m σ0 (fX1_pickFirstFrom τ b1 σ a2) := by
  unfold fX1_pickFirstFrom
  exact (wfX1_pickFirstFrom_0 hm _ _ _ _ h)
theorem wfX1_pickByJumps_2 {m : Nat} {σ0 : S2} (hm : 1 ||| m = m) (τ : Nat) (b1 : Nat) : ∀ (n : Nat) (σ : S2) (x2 : Int32) (x3 : Int32), Fr gC m σ0 σ → FrP gC m σ0 (fX1_pickByJumps_2 τ b1 n σ x2 x3) := by
  intro n
  induction n with
  | zero => intro σ x2 x3 _; exact frp_n
  | succ n ih =>
    intro σ x2 x3 h
    unfold fX1_pickByJumps_2
    refine frp_if ?_ ?_
    · skip
      exact frp_s h
    · skip
      refine frp_if ?_ ?_
      · skip
        exact frp_s h
      · skip
        refine frp_dz ?_
        refine frp_bs (wfX1_pickFirstFrom hm _ _ _ _ h) (fun r2 σ3 h1 => ?_)
        refine frp_nm (fun v5 => ?_)
        exact (ih _ _ _ h1)
theorem wfX1_pickByJumps_0 {m : Nat} {σ0 : S2} (hm : 1 ||| m = m) (τ : Nat) (b1 : Nat) (σ : S2) (x2 : Int32) (h : Fr gC m σ0 σ) : FrP gC m σ0 (fX1_pickByJumps_0 τ b1 σ x2) := by
  unfold fX1_pickByJumps_0
  exact (wfX1_pickByJumps_2 hm _ _ _ _ _ _ h)
theorem wfX1_pickByJumps {m : Nat} {σ0 : S2} (hm : 1 ||| m = m) (τ : Nat) (b1 : Nat) (σ : S2) (a2 : Int32) (h : Fr gC m σ0 σ) : FrP gC m σ0 (fX1_pickByJumps τ b1 σ a2) := by
  unfold fX1_pickByJumps
  exact (wfX1_pickByJumps_0 hm _ _ _ _ h)
theorem wfX1_pickRound_55 {m : Nat} {σ0 : S2} (hm : 1 ||| m = m) (τ : Nat) (b1 : Nat) (k5 : S2 → Int32 → Int32 → Option (Unit × S2)) (hk5 : ∀ (y0 : S2) (y1 : Int32) (y2 : Int32), Fr gC m σ0 y0 → FrP gC m σ0 (k5 y0 y1 y2)) (σ : S2) (x3 : Int32) (x4 : Int32) (h : Fr gC m σ0 σ) : FrP gC m σ0 (fX1_pickRound_55 τ b1 k5 σ x3 x4) := by
  unfold fX1_pickRound_55
  refine frp_bi (fun r1 => ?_)
  refine frp_nm (fun v3 => ?_)
  exact (hk5 _ _ _ h)
theorem wfX1_pickRound_5 {m : Nat} {σ0 : S2} (hm : 1 ||| m = m) (τ : Nat) (b1 : Nat) : ∀ (n : Nat) (σ : S2) (x3 : Int32) (x4 : Int32), Fr gC m σ0 σ → FrP gC m σ0 (fX1_pickRound_5 τ b1 n σ x3 x4) := by
  intro n
  induction n with
  | zero => intro σ x3 x4 _; exact frp_n
  | succ n ih =>
    intro σ x3 x4 h
    unfold fX1_pickRound_5
    refine frp_if ?_ ?_
    · skip
      exact frp_s h
    · skip
      refine frp_if ?_ ?_
      · skip
        exact frp_s h
      · skip
        refine frp_ck (fun b1 => ?_)
        refine frp_nm (fun v4 => ?_)
        refine frp_ck (fun b2 => ?_)
        refine frp_nm (fun v5 => ?_)
        refine frp_bi (fun r6 => ?_)
        refine frp_if ?_ ?_
        · skip
          refine frp_ck (fun b3 => ?_)
          refine frp_nm (fun v8 => ?_)
          refine frp_bs (wfX1_takePick hm _ _ _ h) (fun r9 σ10 h4 => ?_)
          exact (wfX1_pickRound_55 hm _ _ _ ih _ _ _ h4)
        · skip
          exact (wfX1_pickRound_55 hm _ _ _ ih _ _ _ h)
theorem wfX1_pickRound_0 {m : Nat} {σ0 : S2} (hm : 1 ||| m = m) (τ : Nat) (b1 : Nat) (σ : S2) (x2 : Int32) (h : Fr gC m σ0 σ) : FrP gC m σ0 (fX1_pickRound_0 τ b1 σ x2) := by
  unfold fX1_pickRound_0
  exact (wfX1_pickRound_5 hm _ _ _ _ _ _ h)
theorem wfX1_pickRound {m : Nat} {σ0 : S2} (hm : 1 ||| m = m) (τ : Nat) (b1 : Nat) (σ : S2) (a2 : Int32) (h : Fr gC m σ0 σ) : FrP gC m σ0 (fX1_pickRound τ b1 σ a2) := by
  unfold fX1_pickRound
  exact (wfX1_pickRound_0 hm _ _ _ _ h)
theorem wfX1_pick_0 {m : Nat} {σ0 : S2} (hm : 1 ||| m = m) (τ : Nat) (b1 : Nat) (σ : S2) (x2 : Int32) (h : Fr gC m σ0 σ) : FrP gC m σ0 (fX1_pick_0 τ b1 σ x2) := by
  unfold fX1_pick_0
  refine frp_w (Fr.wI h (tb_of (g := 0) hm rfl)) (fun σ1 h1 => ?_)
  refine frp_w (Fr.wI h1 (tb_of (g := 0) hm rfl)) (fun σ2 h2 => ?_)
  refine frp_if ?_ ?_
  · skip
    refine frp_bs (wfX1_pickBySums hm _ _ _ _ h2) (fun r9 σ10 h3 => ?_)
    exact frp_s h3
  · skip
    refine frp_if ?_ ?_
    · skip
      refine frp_bs (wfX1_pickByJumps hm _ _ _ _ h2) (fun r6 σ7 h4 => ?_)
      exact frp_s h4
    · skip
      refine frp_bs (wfX1_pickRound hm _ _ _ _ h2) (fun r3 σ4 h5 => ?_)
      exact frp_s h5
theorem wfX1_pick {m : Nat} {σ0 : S2} (hm : 1 ||| m = m) (τ : Nat) (b1 : Nat) (σ : S2) (a2 : Int32) (h : Fr gC m σ0 σ) : FrP gC m σ0 (fX1_pick τ b1 σ a2) := by
  unfold fX1_pick
  exact (wfX1_pick_0 hm _ _ _ _ h)
theorem wfX1_takeChosen_0 {m : Nat} {σ0 : S2} (hm : 1 ||| m = m) (τ : Nat) (σ : S2) (x1 : Int32) (h : Fr gC m σ0 σ) : FrP gC m σ0 (fX1_takeChosen_0 τ σ x1) := by
  unfold fX1_takeChosen_0
  refine frp_ck (fun b1 => ?_)
  refine frp_w (Fr.wI h (tb_of (g := 0) hm rfl)) (fun σ1 h2 => ?_)
  refine frp_w (Fr.wI h2 (tb_of (g := 0) hm rfl)) (fun σ2 h3 => ?_)
  refine frp_w (Fr.wI h3 (tb_of (g := 0) hm rfl)) (fun σ3 h4 => ?_)
  refine frp_ck (fun b5 => ?_)
  refine frp_nm (fun v4 => ?_)
  refine frp_w (Fr.wI h4 (tb_of (g := 0) hm rfl)) (fun σ5 h6 => ?_)
  exact frp_s h6
theorem wfX1_takeChosen {m : Nat} {σ0 : S2} (hm : 1 ||| m = m) (τ : Nat) (σ : S2) (a1 : Int32) (h : Fr gC m σ0 σ) : FrP gC m σ0 (fX1_takeChosen τ σ a1) := by
  unfold fX1_takeChosen
  exact (wfX1_takeChosen_0 hm _ _ _ h)
theorem wfX1_choose_133 {m : Nat} {σ0 : S2} (hm : 1 ||| m = m) (τ : Nat) (b1 : Nat) (k91 : S2 → Int32 → Option (Unit × S2)) (hk91 : ∀ (y0 : S2) (y1 : Int32), Fr gC m σ0 y0 → FrP gC m σ0 (k91 y0 y1)) (σ : S2) (x3 : Int32) (h : Fr gC m σ0 σ) : FrP gC m σ0 (fX1_choose_133 τ b1 k91 σ x3) := by
  unfold fX1_choose_133
  refine frp_nm (fun v1 => ?_)
  exact (hk91 _ _ h)
theorem wfX1_choose_91 {m : Nat} {σ0 : S2} (hm : 1 ||| m = m) (τ : Nat) (b1 : Nat) : ∀ (n : Nat) (σ : S2) (x3 : Int32), Fr gC m σ0 σ → FrP gC m σ0 (fX1_choose_91 τ b1 n σ x3) := by
  intro n
  induction n with
  | zero => intro σ x3 _; exact frp_n
  | succ n ih =>
    intro σ x3 h
    unfold fX1_choose_91
    refine frp_if ?_ ?_
    · skip
      exact frp_s h
    · skip
      refine frp_if ?_ ?_
      · skip
        exact frp_s h
      · skip
        refine frp_ck (fun b1 => ?_)
        refine frp_nm (fun v2 => ?_)
        refine frp_bi (fun r3 => ?_)
        refine frp_if ?_ ?_
        · skip
          refine frp_ck (fun b2 => ?_)
          refine frp_nm (fun v5 => ?_)
          refine frp_bs (wfX1_takeChosen hm _ _ _ h) (fun r6 σ7 h3 => ?_)
          exact (wfX1_choose_133 hm _ _ _ ih _ _ h3)
        · skip
          exact (wfX1_choose_133 hm _ _ _ ih _ _ h)
theorem wfX1_choose_89 {m : Nat} {σ0 : S2} (hm : 1 ||| m = m) (τ : Nat) (b1 : Nat) (σ : S2) (h : Fr gC m σ0 σ) : FrP gC m σ0 (fX1_choose_89 τ b1 σ) := by
  unfold fX1_choose_89
  exact (wfX1_choose_91 hm _ _ _ _ _ h)
theorem wfX1_choose_83 {m : Nat} {σ0 : S2} (hm : 1 ||| m = m) (τ : Nat) (b1 : Nat) (k23 : S2 → Int32 → Option (Unit × S2)) (hk23 : ∀ (y0 : S2) (y1 : Int32), Fr gC m σ0 y0 → FrP gC m σ0 (k23 y0 y1)) (σ : S2) (x3 : Int32) (h : Fr gC m σ0 σ) : FrP gC m σ0 (fX1_choose_83 τ b1 k23 σ x3) := by
  unfold fX1_choose_83
  refine frp_nm (fun v9 => ?_)
  exact (hk23 _ _ h)
theorem wfX1_choose_23 {m : Nat} {σ0 : S2} (hm : 1 ||| m = m) (τ : Nat) (b1 : Nat) : ∀ (n : Nat) (σ : S2) (x3 : Int32), Fr gC m σ0 σ → FrP gC m σ0 (fX1_choose_23 τ b1 n σ x3) := by
  intro n
  induction n with
  | zero => intro σ x3 _; exact frp_n
  | succ n ih =>
    intro σ x3 h
    unfold fX1_choose_23
    refine frp_if ?_ ?_
    · skip
      exact (wfX1_choose_89 hm _ _ _ h)
    · skip
      refine frp_if ?_ ?_
      · skip
        exact (wfX1_choose_89 hm _ _ _ h)
      · skip
        refine frp_ck (fun b1 => ?_)
        refine frp_nm (fun v10 => ?_)
        refine frp_ck (fun b2 => ?_)
        refine frp_nm (fun v11 => ?_)
        refine frp_if ?_ ?_
        · skip
          refine frp_ck (fun b3 => ?_)
          refine frp_nm (fun v12 => ?_)
          refine frp_bs (wfX1_takeChosen hm _ _ _ h) (fun r13 σ14 h4 => ?_)
          exact (wfX1_choose_83 hm _ _ _ ih _ _ h4)
        · skip
          exact (wfX1_choose_83 hm _ _ _ ih _ _ h)
theorem wfX1_choose_0 {m : Nat} {σ0 : S2} (hm : 1 ||| m = m) (τ : Nat) (b1 : Nat) (σ : S2) (x2 : Int32) (h : Fr gC m σ0 σ) : FrP gC m σ0 (fX1_choose_0 τ b1 σ x2) := by
  unfold fX1_choose_0
  refine frp_bs (wfX1_pick hm _ _ _ _ h) (fun r16 σ17 h1 => ?_)
  refine frp_w (Fr.wI h1 (tb_of (g := 0) hm rfl)) (fun σ19 h2 => ?_)
  refine frp_w (Fr.wI h2 (tb_of (g := 0) hm rfl)) (fun σ20 h3 => ?_)
  refine frp_w (Fr.wI h3 (tb_of (g := 0) hm rfl)) (fun σ21 h4 => ?_)
  exact (wfX1_choose_23 hm _ _ _ _ _ h4)
theorem wfX1_choose {m : Nat} {σ0 : S2} (hm : 1 ||| m = m) (τ : Nat) (b1 : Nat) (σ : S2) (a2 : Int32) (h : Fr gC m σ0 σ) : FrP gC m σ0 (fX1_choose τ b1 σ a2) := by
  unfold fX1_choose
  exact (wfX1_choose_0 hm _ _ _ _ h)
theorem wfX2_add_0 {m : Nat} {σ0 : S2} (hm : 248 ||| m = m) (τ : Nat) (σ : S2) (x1 : Int32) (x2 : Int32) (h : Fr gC m σ0 σ) : FrP gC m σ0 (fX2_add_0 τ σ x1 x2) := by
  unfold fX2_add_0
  refine frp_ck (fun b1 => ?_)
  refine frp_w (Fr.wI h (tb_of (g := 4) hm rfl)) (fun σ1 h2 => ?_)
  refine frp_ck (fun b3 => ?_)
  refine frp_w (Fr.wI h2 (tb_of (g := 5) hm rfl)) (fun σ2 h4 => ?_)
  refine frp_ck (fun b5 => ?_)
  refine frp_w (Fr.wI h4 (tb_of (g := 6) hm rfl)) (fun σ3 h6 => ?_)
  refine frp_ck (fun b7 => ?_)
  refine frp_w (Fr.wI h6 (tb_of (g := 7) hm rfl)) (fun σ4 h8 => ?_)
  refine frp_w (Fr.wI h8 (tb_of (g := 3) hm rfl)) (fun σ5 h9 => ?_)
  exact frp_s h9
theorem wfX2_add {m : Nat} {σ0 : S2} (hm : 248 ||| m = m) (τ : Nat) (σ : S2) (a1 : Int32) (a2 : Int32) (h : Fr gC m σ0 σ) : FrP gC m σ0 (fX2_add τ σ a1 a2) := by
  unfold fX2_add
  exact (wfX2_add_0 hm _ _ _ _ h)
theorem wfX3_look_94 {m : Nat} {σ0 : S2} (hm : 1 ||| m = m) (τ : Nat) (k26 : S2 → Int32 → Int32 → Option (Unit × S2)) (hk26 : ∀ (y0 : S2) (y1 : Int32) (y2 : Int32), Fr gC m σ0 y0 → FrP gC m σ0 (k26 y0 y1 y2)) (σ : S2) (x3 : Int32) (x4 : Int32) (h : Fr gC m σ0 σ) : FrP gC m σ0 (fX3_look_94 τ k26 σ x3 x4) := by
  unfold fX3_look_94
  refine frp_nm (fun v1 => ?_)
  exact (hk26 _ _ _ h)
theorem wfX3_look_26 {m : Nat} {σ0 : S2} (hm : 1 ||| m = m) (τ : Nat) : ∀ (n : Nat) (σ : S2) (x3 : Int32) (x4 : Int32), Fr gC m σ0 σ → FrP gC m σ0 (fX3_look_26 τ n σ x3 x4) := by
  intro n
  induction n with
  | zero => intro σ x3 x4 _; exact frp_n
  | succ n ih =>
    intro σ x3 x4 h
    unfold fX3_look_26
    refine frp_if ?_ ?_
    · skip
      refine frp_bi (fun r2 => ?_)
      refine frp_w (Fr.wI h (tb_of (g := 0) hm rfl)) (fun σ4 h1 => ?_)
      exact frp_s h1
    · skip
      refine frp_if ?_ ?_
      · skip
        exact (wfX3_look_94 hm _ _ ih _ _ _ h)
      · skip
        refine frp_ck (fun b2 => ?_)
        refine frp_nm (fun v5 => ?_)
        refine frp_nm (fun v6 => ?_)
        refine frp_ck (fun b3 => ?_)
        refine frp_nm (fun v7 => ?_)
        refine frp_w (Fr.wI h (tb_of (g := 0) hm rfl)) (fun σ8 h4 => ?_)
        refine frp_ck (fun b5 => ?_)
        refine frp_nm (fun v9 => ?_)
        refine frp_w (Fr.wI h4 (tb_of (g := 0) hm rfl)) (fun σ10 h6 => ?_)
        exact (wfX3_look_94 hm _ _ ih _ _ _ h6)
theorem wfX3_look_0 {m : Nat} {σ0 : S2} (hm : 1 ||| m = m) (τ : Nat) (σ : S2) (h : Fr gC m σ0 σ) : FrP gC m σ0 (fX3_look_0 τ σ) := by
  unfold fX3_look_0
  refine frp_bi (fun r11 => ?_)
  refine frp_w (Fr.wI h (tb_of (g := 0) hm rfl)) (fun σ13 h1 => ?_)
  refine frp_w (Fr.wI h1 (tb_of (g := 0) hm rfl)) (fun σ14 h2 => ?_)
  refine frp_w (Fr.wI h2 (tb_of (g := 0) hm rfl)) (fun σ15 h3 => ?_)
  exact (wfX3_look_26 hm _ _ _ _ _ h3)
theorem wfX3_look {m : Nat} {σ0 : S2} (hm : 1 ||| m = m) (τ : Nat) (σ : S2) (h : Fr gC m σ0 σ) : FrP gC m σ0 (fX3_look τ σ) := by
  unfold fX3_look
  exact (wfX3_look_0 hm _ _ h)
theorem wfX3_readNumber_4 {m : Nat} {σ0 : S2} (hm : 1 ||| m = m) (τ : Nat) : ∀ (n : Nat) (σ : S2) (x1 : Int32) (x2 : Int32), Fr gC m σ0 σ → FrP gC m σ0 (fX3_readNumber_4 τ n σ x1 x2) := by
  intro n
  induction n with
  | zero => intro σ x1 x2 _; exact frp_n
  | succ n ih =>
    intro σ x1 x2 h
    unfold fX3_readNumber_4
    refine frp_if ?_ ?_
    · skip
      exact frp_s h
    · skip
      refine frp_bi (fun r1 => ?_)
      refine frp_bi (fun r3 => ?_)
      refine frp_if ?_ ?_
      · skip
        exact frp_s h
      · skip
        refine frp_bi (fun r5 => ?_)
        refine frp_nm (fun v7 => ?_)
        refine frp_w (Fr.wI h (tb_of (g := 0) hm rfl)) (fun σ8 h1 => ?_)
        refine frp_nm (fun v9 => ?_)
        exact (ih _ _ _ h1)
theorem wfX3_readNumber_0 {m : Nat} {σ0 : S2} (hm : 1 ||| m = m) (τ : Nat) (σ : S2) (h : Fr gC m σ0 σ) : FrP gC m σ0 (fX3_readNumber_0 τ σ) := by
  unfold fX3_readNumber_0
  exact (wfX3_readNumber_4 hm _ _ _ _ _ h)
theorem wfX3_readNumber {m : Nat} {σ0 : S2} (hm : 1 ||| m = m) (τ : Nat) (σ : S2) (h : Fr gC m σ0 σ) : FrP gC m σ0 (fX3_readNumber τ σ) := by
  unfold fX3_readNumber
  exact (wfX3_readNumber_0 hm _ _ h)
theorem wfX3_readSum_80 {m : Nat} {σ0 : S2} (hm : 1 ||| m = m) (τ : Nat) (qX3_readSum : S2 → Int32 → Option (Int32 × S2)) (qX3_readProduct : S2 → Int32 → Option (Int32 × S2)) (qX3_readOperand : S2 → Int32 → Option (Int32 × S2)) (qX3_readBracket : S2 → Int32 → Option (Int32 × S2)) (k8 : S2 → Int32 → Int32 → Int32 → Option (Int32 × S2)) (hqX3_readSum : ∀ (y0 : S2) (y1 : Int32), Fr gC m σ0 y0 → FrP gC m σ0 (qX3_readSum y0 y1)) (hqX3_readProduct : ∀ (y0 : S2) (y1 : Int32), Fr gC m σ0 y0 → FrP gC m σ0 (qX3_readProduct y0 y1)) (hqX3_readOperand : ∀ (y0 : S2) (y1 : Int32), Fr gC m σ0 y0 → FrP gC m σ0 (qX3_readOperand y0 y1)) (hqX3_readBracket : ∀ (y0 : S2) (y1 : Int32), Fr gC m σ0 y0 → FrP gC m σ0 (qX3_readBracket y0 y1)) (hk8 : ∀ (y0 : S2) (y1 : Int32) (y2 : Int32) (y3 : Int32), Fr gC m σ0 y0 → FrP gC m σ0 (k8 y0 y1 y2 y3)) (σ : S2) (x1 : Int32) (x3 : Int32) (s0 : Int32) (h : Fr gC m σ0 σ) : FrP gC m σ0 (fX3_readSum_80 τ qX3_readSum qX3_readProduct qX3_readOperand qX3_readBracket k8 σ x1 x3 s0) := by
  unfold fX3_readSum_80
  refine frp_nm (fun v1 => ?_)
  exact (hk8 _ _ _ _ h)
theorem wfX3_readSum_45 {m : Nat} {σ0 : S2} (hm : 1 ||| m = m) (τ : Nat) (qX3_readSum : S2 → Int32 → Option (Int32 × S2)) (qX3_readProduct : S2 → Int32 → Option (Int32 × S2)) (qX3_readOperand : S2 → Int32 → Option (Int32 × S2)) (qX3_readBracket : S2 → Int32 → Option (Int32 × S2)) (k8 : S2 → Int32 → Int32 → Int32 → Option (Int32 × S2)) (hqX3_readSum : ∀ (y0 : S2) (y1 : Int32), Fr gC m σ0 y0 → FrP gC m σ0 (qX3_readSum y0 y1)) (hqX3_readProduct : ∀ (y0 : S2) (y1 : Int32), Fr gC m σ0 y0 → FrP gC m σ0 (qX3_readProduct y0 y1)) (hqX3_readOperand : ∀ (y0 : S2) (y1 : Int32), Fr gC m σ0 y0 → FrP gC m σ0 (qX3_readOperand y0 y1)) (hqX3_readBracket : ∀ (y0 : S2) (y1 : Int32), Fr gC m σ0 y0 → FrP gC m σ0 (qX3_readBracket y0 y1)) (hk8 : ∀ (y0 : S2) (y1 : Int32) (y2 : Int32) (y3 : Int32), Fr gC m σ0 y0 → FrP gC m σ0 (k8 y0 y1 y2 y3)) (σ : S2) (x1 : Int32) (x2 : Int32) (x3 : Int32) (x4 : Int32) (h : Fr gC m σ0 σ) : FrP gC m σ0 (fX3_readSum_45 τ qX3_readSum qX3_readProduct qX3_readOperand qX3_readBracket k8 σ x1 x2 x3 x4) := by
  unfold fX3_readSum_45
  refine frp_w (Fr.wI h (tb_of (g := 0) hm rfl)) (fun σ2 h1 => ?_)
  refine frp_bs (hqX3_readProduct _ _ h1) (fun r3 σ4 h2 => ?_)
  refine frp_if ?_ ?_
  · skip
    exact (wfX3_readSum_80 hm _ _ _ _ _ _ hqX3_readSum hqX3_readProduct hqX3_readOperand hqX3_readBracket hk8 _ _ _ _ h2)
  · skip
    exact (wfX3_readSum_80 hm _ _ _ _ _ _ hqX3_readSum hqX3_readProduct hqX3_readOperand hqX3_readBracket hk8 _ _ _ _ h2)
theorem wfX3_readSum_8 {m : Nat} {σ0 : S2} (hm : 1 ||| m = m) (τ : Nat) (qX3_readSum : S2 → Int32 → Option (Int32 × S2)) (qX3_readProduct : S2 → Int32 → Option (Int32 × S2)) (qX3_readOperand : S2 → Int32 → Option (Int32 × S2)) (qX3_readBracket : S2 → Int32 → Option (Int32 × S2)) (hqX3_readSum : ∀ (y0 : S2) (y1 : Int32), Fr gC m σ0 y0 → FrP gC m σ0 (qX3_readSum y0 y1)) (hqX3_readProduct : ∀ (y0 : S2) (y1 : Int32), Fr gC m σ0 y0 → FrP gC m σ0 (qX3_readProduct y0 y1)) (hqX3_readOperand : ∀ (y0 : S2) (y1 : Int32), Fr gC m σ0 y0 → FrP gC m σ0 (qX3_readOperand y0 y1)) (hqX3_readBracket : ∀ (y0 : S2) (y1 : Int32), Fr gC m σ0 y0 → FrP gC m σ0 (qX3_readBracket y0 y1)) : ∀ (n : Nat) (σ : S2) (x1 : Int32) (x2 : Int32) (x3 : Int32), Fr gC m σ0 σ → FrP gC m σ0 (fX3_readSum_8 τ qX3_readSum qX3_readProduct qX3_readOperand qX3_readBracket n σ x1 x2 x3) := by
  intro n
  induction n with
  | zero => intro σ x1 x2 x3 _; exact frp_n
  | succ n ih =>
    intro σ x1 x2 x3 h
    unfold fX3_readSum_8
    refine frp_if ?_ ?_
    · skip
      exact frp_s h
    · skip
      refine frp_if ?_ ?_
      · skip
        refine frp_bi (fun r6 => ?_)
        refine frp_if ?_ ?_
        · skip
          exact (wfX3_readSum_45 hm _ _ _ _ _ _ hqX3_readSum hqX3_readProduct hqX3_readOperand hqX3_readBracket ih _ _ _ _ _ h)
        · skip
          refine frp_if ?_ ?_
          · skip
            exact (wfX3_readSum_45 hm _ _ _ _ _ _ hqX3_readSum hqX3_readProduct hqX3_readOperand hqX3_readBracket ih _ _ _ _ _ h)
          · skip
            exact frp_s h
      · skip
        exact frp_s h
theorem wfX3_readSum_0 {m : Nat} {σ0 : S2} (hm : 1 ||| m = m) (τ : Nat) (qX3_readSum : S2 → Int32 → Option (Int32 × S2)) (qX3_readProduct : S2 → Int32 → Option (Int32 × S2)) (qX3_readOperand : S2 → Int32 → Option (Int32 × S2)) (qX3_readBracket : S2 → Int32 → Option (Int32 × S2)) (hqX3_readSum : ∀ (y0 : S2) (y1 : Int32), Fr gC m σ0 y0 → FrP gC m σ0 (qX3_readSum y0 y1)) (hqX3_readProduct : ∀ (y0 : S2) (y1 : Int32), Fr gC m σ0 y0 → FrP gC m σ0 (qX3_readProduct y0 y1)) (hqX3_readOperand : ∀ (y0 : S2) (y1 : Int32), Fr gC m σ0 y0 → FrP gC m σ0 (qX3_readOperand y0 y1)) (hqX3_readBracket : ∀ (y0 : S2) (y1 : Int32), Fr gC m σ0 y0 → FrP gC m σ0 (qX3_readBracket y0 y1)) (σ : S2) (x1 : Int32) (h : Fr gC m σ0 σ) : FrP gC m σ0 (fX3_readSum_0 τ qX3_readSum qX3_readProduct qX3_readOperand qX3_readBracket σ x1) := by
  unfold fX3_readSum_0
  refine frp_bs (hqX3_readProduct _ _ h) (fun r8 σ9 h1 => ?_)
  exact (wfX3_readSum_8 hm _ _ _ _ _ hqX3_readSum hqX3_readProduct hqX3_readOperand hqX3_readBracket _ _ _ _ _ h1)
theorem weX3_readSum {m : Nat} {σ0 : S2} (hm : 1 ||| m = m) (τ : Nat) (qX3_readSum : S2 → Int32 → Option (Int32 × S2)) (qX3_readProduct : S2 → Int32 → Option (Int32 × S2)) (qX3_readOperand : S2 → Int32 → Option (Int32 × S2)) (qX3_readBracket : S2 → Int32 → Option (Int32 × S2)) (hqX3_readSum : ∀ (y0 : S2) (y1 : Int32), Fr gC m σ0 y0 → FrP gC m σ0 (qX3_readSum y0 y1)) (hqX3_readProduct : ∀ (y0 : S2) (y1 : Int32), Fr gC m σ0 y0 → FrP gC m σ0 (qX3_readProduct y0 y1)) (hqX3_readOperand : ∀ (y0 : S2) (y1 : Int32), Fr gC m σ0 y0 → FrP gC m σ0 (qX3_readOperand y0 y1)) (hqX3_readBracket : ∀ (y0 : S2) (y1 : Int32), Fr gC m σ0 y0 → FrP gC m σ0 (qX3_readBracket y0 y1)) (σ : S2) (a1 : Int32) (h : Fr gC m σ0 σ) : FrP gC m σ0 (eX3_readSum τ qX3_readSum qX3_readProduct qX3_readOperand qX3_readBracket σ a1) := by
  unfold eX3_readSum
  exact (wfX3_readSum_0 hm _ _ _ _ _ hqX3_readSum hqX3_readProduct hqX3_readOperand hqX3_readBracket _ _ h)
theorem wfX3_readProduct_113 {m : Nat} {σ0 : S2} (hm : 1 ||| m = m) (τ : Nat) (qX3_readSum : S2 → Int32 → Option (Int32 × S2)) (qX3_readProduct : S2 → Int32 → Option (Int32 × S2)) (qX3_readOperand : S2 → Int32 → Option (Int32 × S2)) (qX3_readBracket : S2 → Int32 → Option (Int32 × S2)) (k8 : S2 → Int32 → Int32 → Int32 → Option (Int32 × S2)) (hqX3_readSum : ∀ (y0 : S2) (y1 : Int32), Fr gC m σ0 y0 → FrP gC m σ0 (qX3_readSum y0 y1)) (hqX3_readProduct : ∀ (y0 : S2) (y1 : Int32), Fr gC m σ0 y0 → FrP gC m σ0 (qX3_readProduct y0 y1)) (hqX3_readOperand : ∀ (y0 : S2) (y1 : Int32), Fr gC m σ0 y0 → FrP gC m σ0 (qX3_readOperand y0 y1)) (hqX3_readBracket : ∀ (y0 : S2) (y1 : Int32), Fr gC m σ0 y0 → FrP gC m σ0 (qX3_readBracket y0 y1)) (hk8 : ∀ (y0 : S2) (y1 : Int32) (y2 : Int32) (y3 : Int32), Fr gC m σ0 y0 → FrP gC m σ0 (k8 y0 y1 y2 y3)) (σ : S2) (x1 : Int32) (x2 : Int32) (x3 : Int32) (h : Fr gC m σ0 σ) : FrP gC m σ0 (fX3_readProduct_113 τ qX3_readSum qX3_readProduct qX3_readOperand qX3_readBracket k8 σ x1 x2 x3) := by
  unfold fX3_readProduct_113
  refine frp_nm (fun v1 => ?_)
  exact (hk8 _ _ _ _ h)
theorem wfX3_readProduct_112 {m : Nat} {σ0 : S2} (hm : 1 ||| m = m) (τ : Nat) (qX3_readSum : S2 → Int32 → Option (Int32 × S2)) (qX3_readProduct : S2 → Int32 → Option (Int32 × S2)) (qX3_readOperand : S2 → Int32 → Option (Int32 × S2)) (qX3_readBracket : S2 → Int32 → Option (Int32 × S2)) (k8 : S2 → Int32 → Int32 → Int32 → Option (Int32 × S2)) (hqX3_readSum : ∀ (y0 : S2) (y1 : Int32), Fr gC m σ0 y0 → FrP gC m σ0 (qX3_readSum y0 y1)) (hqX3_readProduct : ∀ (y0 : S2) (y1 : Int32), Fr gC m σ0 y0 → FrP gC m σ0 (qX3_readProduct y0 y1)) (hqX3_readOperand : ∀ (y0 : S2) (y1 : Int32), Fr gC m σ0 y0 → FrP gC m σ0 (qX3_readOperand y0 y1)) (hqX3_readBracket : ∀ (y0 : S2) (y1 : Int32), Fr gC m σ0 y0 → FrP gC m σ0 (qX3_readBracket y0 y1)) (hk8 : ∀ (y0 : S2) (y1 : Int32) (y2 : Int32) (y3 : Int32), Fr gC m σ0 y0 → FrP gC m σ0 (k8 y0 y1 y2 y3)) (σ : S2) (x1 : Int32) (x3 : Int32) (s0 : Int32) (h : Fr gC m σ0 σ) : FrP gC m σ0 (fX3_readProduct_112 τ qX3_readSum qX3_readProduct qX3_readOperand qX3_readBracket k8 σ x1 x3 s0) := by
  unfold fX3_readProduct_112
  exact (wfX3_readProduct_113 hm _ _ _ _ _ _ hqX3_readSum hqX3_readProduct hqX3_readOperand hqX3_readBracket hk8 _ _ _ _ h)
theorem wfX3_readProduct_52 {m : Nat} {σ0 : S2} (hm : 1 ||| m = m) (τ : Nat) (qX3_readSum : S2 → Int32 → Option (Int32 × S2)) (qX3_readProduct : S2 → Int32 → Option (Int32 × S2)) (qX3_readOperand : S2 → Int32 → Option (Int32 × S2)) (qX3_readBracket : S2 → Int32 → Option (Int32 × S2)) (k8 : S2 → Int32 → Int32 → Int32 → Option (Int32 × S2)) (hqX3_readSum : ∀ (y0 : S2) (y1 : Int32), Fr gC m σ0 y0 → FrP gC m σ0 (qX3_readSum y0 y1)) (hqX3_readProduct : ∀ (y0 : S2) (y1 : Int32), Fr gC m σ0 y0 → FrP gC m σ0 (qX3_readProduct y0 y1)) (hqX3_readOperand : ∀ (y0 : S2) (y1 : Int32), Fr gC m σ0 y0 → FrP gC m σ0 (qX3_readOperand y0 y1)) (hqX3_readBracket : ∀ (y0 : S2) (y1 : Int32), Fr gC m σ0 y0 → FrP gC m σ0 (qX3_readBracket y0 y1)) (hk8 : ∀ (y0 : S2) (y1 : Int32) (y2 : Int32) (y3 : Int32), Fr gC m σ0 y0 → FrP gC m σ0 (k8 y0 y1 y2 y3)) (σ : S2) (x1 : Int32) (x2 : Int32) (x3 : Int32) (x4 : Int32) (h : Fr gC m σ0 σ) : FrP gC m σ0 (fX3_readProduct_52 τ qX3_readSum qX3_readProduct qX3_readOperand qX3_readBracket k8 σ x1 x2 x3 x4) := by
  unfold fX3_readProduct_52
  refine frp_w (Fr.wI h (tb_of (g := 0) hm rfl)) (fun σ2 h1 => ?_)
  refine frp_bs (hqX3_readOperand _ _ h1) (fun r3 σ4 h2 => ?_)
  refine frp_if ?_ ?_
  · skip
    refine frp_nm (fun v8 => ?_)
    exact (wfX3_readProduct_113 hm _ _ _ _ _ _ hqX3_readSum hqX3_readProduct hqX3_readOperand hqX3_readBracket hk8 _ _ _ _ h2)
  · skip
    refine frp_if ?_ ?_
    · skip
      exact (wfX3_readProduct_113 hm _ _ _ _ _ _ hqX3_readSum hqX3_readProduct hqX3_readOperand hqX3_readBracket hk8 _ _ _ _ h2)
    · skip
      refine frp_if ?_ ?_
      · skip
        refine frp_dz ?_
        exact (wfX3_readProduct_112 hm _ _ _ _ _ _ hqX3_readSum hqX3_readProduct hqX3_readOperand hqX3_readBracket hk8 _ _ _ _ h2)
      · skip
        refine frp_dz ?_
        exact (wfX3_readProduct_112 hm _ _ _ _ _ _ hqX3_readSum hqX3_readProduct hqX3_readOperand hqX3_readBracket hk8 _ _ _ _ h2)
theorem wfX3_readProduct_8 {m : Nat} {σ0 : S2} (hm : 1 ||| m = m) (τ : Nat) (qX3_readSum : S2 → Int32 → Option (Int32 × S2)) (qX3_readProduct : S2 → Int32 → Option (Int32 × S2)) (qX3_readOperand : S2 → Int32 → Option (Int32 × S2)) (qX3_readBracket : S2 → Int32 → Option (Int32 × S2)) (hqX3_readSum : ∀ (y0 : S2) (y1 : Int32), Fr gC m σ0 y0 → FrP gC m σ0 (qX3_readSum y0 y1)) (hqX3_readProduct : ∀ (y0 : S2) (y1 : Int32), Fr gC m σ0 y0 → FrP gC m σ0 (qX3_readProduct y0 y1)) (hqX3_readOperand : ∀ (y0 : S2) (y1 : Int32), Fr gC m σ0 y0 → FrP gC m σ0 (qX3_readOperand y0 y1)) (hqX3_readBracket : ∀ (y0 : S2) (y1 : Int32), Fr gC m σ0 y0 → FrP gC m σ0 (qX3_readBracket y0 y1)) : ∀ (n : Nat) (σ : S2) (x1 : Int32) (x2 : Int32) (x3 : Int32), Fr gC m σ0 σ → FrP gC m σ0 (fX3_readProduct_8 τ qX3_readSum qX3_readProduct qX3_readOperand qX3_readBracket n σ x1 x2 x3) := by
  intro n
  induction n with
  | zero => intro σ x1 x2 x3 _; exact frp_n
  | succ n ih =>
    intro σ x1 x2 x3 h
    unfold fX3_readProduct_8
    refine frp_if ?_ ?_
    · skip
      exact frp_s h
    · skip
      refine frp_if ?_ ?_
      · skip
        refine frp_bi (fun r9 => ?_)
        refine frp_if ?_ ?_
        · skip
          exact (wfX3_readProduct_52 hm _ _ _ _ _ _ hqX3_readSum hqX3_readProduct hqX3_readOperand hqX3_readBracket ih _ _ _ _ _ h)
        · skip
          refine frp_if ?_ ?_
          · skip
            exact (wfX3_readProduct_52 hm _ _ _ _ _ _ hqX3_readSum hqX3_readProduct hqX3_readOperand hqX3_readBracket ih _ _ _ _ _ h)
          · skip
            refine frp_if ?_ ?_
            · skip
              exact (wfX3_readProduct_52 hm _ _ _ _ _ _ hqX3_readSum hqX3_readProduct hqX3_readOperand hqX3_readBracket ih _ _ _ _ _ h)
            · skip
              exact frp_s h
      · skip
        exact frp_s h
theorem wfX3_readProduct_0 {m : Nat} {σ0 : S2} (hm : 1 ||| m = m) (τ : Nat) (qX3_readSum : S2 → Int32 → Option (Int32 × S2)) (qX3_readProduct : S2 → Int32 → Option (Int32 × S2)) (qX3_readOperand : S2 → Int32 → Option (Int32 × S2)) (qX3_readBracket : S2 → Int32 → Option (Int32 × S2)) (hqX3_readSum : ∀ (y0 : S2) (y1 : Int32), Fr gC m σ0 y0 → FrP gC m σ0 (qX3_readSum y0 y1)) (hqX3_readProduct : ∀ (y0 : S2) (y1 : Int32), Fr gC m σ0 y0 → FrP gC m σ0 (qX3_readProduct y0 y1)) (hqX3_readOperand : ∀ (y0 : S2) (y1 : Int32), Fr gC m σ0 y0 → FrP gC m σ0 (qX3_readOperand y0 y1)) (hqX3_readBracket : ∀ (y0 : S2) (y1 : Int32), Fr gC m σ0 y0 → FrP gC m σ0 (qX3_readBracket y0 y1)) (σ : S2) (x1 : Int32) (h : Fr gC m σ0 σ) : FrP gC m σ0 (fX3_readProduct_0 τ qX3_readSum qX3_readProduct qX3_readOperand qX3_readBracket σ x1) := by
  unfold fX3_readProduct_0
  refine frp_bs (hqX3_readOperand _ _ h) (fun r11 σ12 h1 => ?_)
  exact (wfX3_readProduct_8 hm _ _ _ _ _ hqX3_readSum hqX3_readProduct hqX3_readOperand hqX3_readBracket _ _ _ _ _ h1)
theorem weX3_readProduct {m : Nat} {σ0 : S2} (hm : 1 ||| m = m) (τ : Nat) (qX3_readSum : S2 → Int32 → Option (Int32 × S2)) (qX3_readProduct : S2 → Int32 → Option (Int32 × S2)) (qX3_readOperand : S2 → Int32 → Option (Int32 × S2)) (qX3_readBracket : S2 → Int32 → Option (Int32 × S2)) (hqX3_readSum : ∀ (y0 : S2) (y1 : Int32), Fr gC m σ0 y0 → FrP gC m σ0 (qX3_readSum y0 y1)) (hqX3_readProduct : ∀ (y0 : S2) (y1 : Int32), Fr gC m σ0 y0 → FrP gC m σ0 (qX3_readProduct y0 y1)) (hqX3_readOperand : ∀ (y0 : S2) (y1 : Int32), Fr gC m σ0 y0 → FrP gC m σ0 (qX3_readOperand y0 y1)) (hqX3_readBracket : ∀ (y0 : S2) (y1 : Int32), Fr gC m σ0 y0 → FrP gC m σ0 (qX3_readBracket y0 y1)) (σ : S2) (a1 : Int32) (h : Fr gC m σ0 σ) : FrP gC m σ0 (eX3_readProduct τ qX3_readSum qX3_readProduct qX3_readOperand qX3_readBracket σ a1) := by
  unfold eX3_readProduct
  exact (wfX3_readProduct_0 hm _ _ _ _ _ hqX3_readSum hqX3_readProduct hqX3_readOperand hqX3_readBracket _ _ h)
theorem wfX3_readOperand_122 {m : Nat} {σ0 : S2} (hm : 1 ||| m = m) (τ : Nat) (qX3_readSum : S2 → Int32 → Option (Int32 × S2)) (qX3_readProduct : S2 → Int32 → Option (Int32 × S2)) (qX3_readOperand : S2 → Int32 → Option (Int32 × S2)) (qX3_readBracket : S2 → Int32 → Option (Int32 × S2)) (hqX3_readSum : ∀ (y0 : S2) (y1 : Int32), Fr gC m σ0 y0 → FrP gC m σ0 (qX3_readSum y0 y1)) (hqX3_readProduct : ∀ (y0 : S2) (y1 : Int32), Fr gC m σ0 y0 → FrP gC m σ0 (qX3_readProduct y0 y1)) (hqX3_readOperand : ∀ (y0 : S2) (y1 : Int32), Fr gC m σ0 y0 → FrP gC m σ0 (qX3_readOperand y0 y1)) (hqX3_readBracket : ∀ (y0 : S2) (y1 : Int32), Fr gC m σ0 y0 → FrP gC m σ0 (qX3_readBracket y0 y1)) (σ : S2) (x3 : Int32) (h : Fr gC m σ0 σ) : FrP gC m σ0 (fX3_readOperand_122 τ qX3_readSum qX3_readProduct qX3_readOperand qX3_readBracket σ x3) := by
  unfold fX3_readOperand_122
  refine frp_w (Fr.wI h (tb_of (g := 0) hm rfl)) (fun σ1 h1 => ?_)
  exact frp_s h1
theorem wfX3_readOperand_34 {m : Nat} {σ0 : S2} (hm : 1 ||| m = m) (τ : Nat) (qX3_readSum : S2 → Int32 → Option (Int32 × S2)) (qX3_readProduct : S2 → Int32 → Option (Int32 × S2)) (qX3_readOperand : S2 → Int32 → Option (Int32 × S2)) (qX3_readBracket : S2 → Int32 → Option (Int32 × S2)) (hqX3_readSum : ∀ (y0 : S2) (y1 : Int32), Fr gC m σ0 y0 → FrP gC m σ0 (qX3_readSum y0 y1)) (hqX3_readProduct : ∀ (y0 : S2) (y1 : Int32), Fr gC m σ0 y0 → FrP gC m σ0 (qX3_readProduct y0 y1)) (hqX3_readOperand : ∀ (y0 : S2) (y1 : Int32), Fr gC m σ0 y0 → FrP gC m σ0 (qX3_readOperand y0 y1)) (hqX3_readBracket : ∀ (y0 : S2) (y1 : Int32), Fr gC m σ0 y0 → FrP gC m σ0 (qX3_readBracket y0 y1)) (σ : S2) (x2 : Int32) (h : Fr gC m σ0 σ) : FrP gC m σ0 (fX3_readOperand_34 τ qX3_readSum qX3_readProduct qX3_readOperand qX3_readBracket σ x2) := by
  unfold fX3_readOperand_34
  refine frp_if ?_ ?_
  · skip
    refine frp_nm (fun v3 => ?_)
    exact (wfX3_readOperand_122 hm _ _ _ _ _ hqX3_readSum hqX3_readProduct hqX3_readOperand hqX3_readBracket _ _ h)
  · skip
    refine frp_if ?_ ?_
    · skip
      refine frp_nm (fun v5 => ?_)
      exact (wfX3_readOperand_122 hm _ _ _ _ _ hqX3_readSum hqX3_readProduct hqX3_readOperand hqX3_readBracket _ _ h)
    · skip
      refine frp_if ?_ ?_
      · skip
        refine frp_nm (fun v7 => ?_)
        exact (wfX3_readOperand_122 hm _ _ _ _ _ hqX3_readSum hqX3_readProduct hqX3_readOperand hqX3_readBracket _ _ h)
      · skip
        refine frp_if ?_ ?_
        · skip
          refine frp_nm (fun v9 => ?_)
          exact (wfX3_readOperand_122 hm _ _ _ _ _ hqX3_readSum hqX3_readProduct hqX3_readOperand hqX3_readBracket _ _ h)
        · skip
          refine frp_w (Fr.wI h (tb_of (g := 0) hm rfl)) (fun σ10 h1 => ?_)
          exact frp_s h1
theorem wfX3_readOperand_0 {m : Nat} {σ0 : S2} (hm : 1 ||| m = m) (τ : Nat) (qX3_readSum : S2 → Int32 → Option (Int32 × S2)) (qX3_readProduct : S2 → Int32 → Option (Int32 × S2)) (qX3_readOperand : S2 → Int32 → Option (Int32 × S2)) (qX3_readBracket : S2 → Int32 → Option (Int32 × S2)) (hqX3_readSum : ∀ (y0 : S2) (y1 : Int32), Fr gC m σ0 y0 → FrP gC m σ0 (qX3_readSum y0 y1)) (hqX3_readProduct : ∀ (y0 : S2) (y1 : Int32), Fr gC m σ0 y0 → FrP gC m σ0 (qX3_readProduct y0 y1)) (hqX3_readOperand : ∀ (y0 : S2) (y1 : Int32), Fr gC m σ0 y0 → FrP gC m σ0 (qX3_readOperand y0 y1)) (hqX3_readBracket : ∀ (y0 : S2) (y1 : Int32), Fr gC m σ0 y0 → FrP gC m σ0 (qX3_readBracket y0 y1)) (σ : S2) (x1 : Int32) (h : Fr gC m σ0 σ) : FrP gC m σ0 (fX3_readOperand_0 τ qX3_readSum qX3_readProduct qX3_readOperand qX3_readBracket σ x1) := by
  unfold fX3_readOperand_0
  refine frp_bi (fun r11 => ?_)
  refine frp_bi (fun r13 => ?_)
  refine frp_if ?_ ?_
  · skip
    refine frp_if ?_ ?_
    · skip
      refine frp_if ?_ ?_
      · skip
        exact (wfX3_readOperand_34 hm _ _ _ _ _ hqX3_readSum hqX3_readProduct hqX3_readOperand hqX3_readBracket _ _ h)
      · skip
        refine frp_bs (hqX3_readBracket _ _ h) (fun r15 σ16 h1 => ?_)
        exact frp_s h1
    · skip
      exact (wfX3_readOperand_34 hm _ _ _ _ _ hqX3_readSum hqX3_readProduct hqX3_readOperand hqX3_readBracket _ _ h)
  · skip
    refine frp_bs (wfX3_readNumber hm _ _ h) (fun r18 σ19 h2 => ?_)
    exact frp_s h2
theorem weX3_readOperand {m : Nat} {σ0 : S2} (hm : 1 ||| m = m) (τ : Nat) (qX3_readSum : S2 → Int32 → Option (Int32 × S2)) (qX3_readProduct : S2 → Int32 → Option (Int32 × S2)) (qX3_readOperand : S2 → Int32 → Option (Int32 × S2)) (qX3_readBracket : S2 → Int32 → Option (Int32 × S2)) (hqX3_readSum : ∀ (y0 : S2) (y1 : Int32), Fr gC m σ0 y0 → FrP gC m σ0 (qX3_readSum y0 y1)) (hqX3_readProduct : ∀ (y0 : S2) (y1 : Int32), Fr gC m σ0 y0 → FrP gC m σ0 (qX3_readProduct y0 y1)) (hqX3_readOperand : ∀ (y0 : S2) (y1 : Int32), Fr gC m σ0 y0 → FrP gC m σ0 (qX3_readOperand y0 y1)) (hqX3_readBracket : ∀ (y0 : S2) (y1 : Int32), Fr gC m σ0 y0 → FrP gC m σ0 (qX3_readBracket y0 y1)) (σ : S2) (a1 : Int32) (h : Fr gC m σ0 σ) : FrP gC m σ0 (eX3_readOperand τ qX3_readSum qX3_readProduct qX3_readOperand qX3_readBracket σ a1) := by
  unfold eX3_readOperand
  exact (wfX3_readOperand_0 hm _ _ _ _ _ hqX3_readSum hqX3_readProduct hqX3_readOperand hqX3_readBracket _ _ h)
theorem wfX3_readBracket_0 {m : Nat} {σ0 : S2} (hm : 1 ||| m = m) (τ : Nat) (qX3_readSum : S2 → Int32 → Option (Int32 × S2)) (qX3_readProduct : S2 → Int32 → Option (Int32 × S2)) (qX3_readOperand : S2 → Int32 → Option (Int32 × S2)) (qX3_readBracket : S2 → Int32 → Option (Int32 × S2)) (hqX3_readSum : ∀ (y0 : S2) (y1 : Int32), Fr gC m σ0 y0 → FrP gC m σ0 (qX3_readSum y0 y1)) (hqX3_readProduct : ∀ (y0 : S2) (y1 : Int32), Fr gC m σ0 y0 → FrP gC m σ0 (qX3_readProduct y0 y1)) (hqX3_readOperand : ∀ (y0 : S2) (y1 : Int32), Fr gC m σ0 y0 → FrP gC m σ0 (qX3_readOperand y0 y1)) (hqX3_readBracket : ∀ (y0 : S2) (y1 : Int32), Fr gC m σ0 y0 → FrP gC m σ0 (qX3_readBracket y0 y1)) (σ : S2) (x1 : Int32) (h : Fr gC m σ0 σ) : FrP gC m σ0 (fX3_readBracket_0 τ qX3_readSum qX3_readProduct qX3_readOperand qX3_readBracket σ x1) := by
  unfold fX3_readBracket_0
  refine frp_w (Fr.wI h (tb_of (g := 0) hm rfl)) (fun σ1 h1 => ?_)
  refine frp_bs (hqX3_readSum _ _ h1) (fun r2 σ3 h2 => ?_)
  refine frp_if ?_ ?_
  · skip
    refine frp_bi (fun r5 => ?_)
    refine frp_if ?_ ?_
    · skip
      refine frp_w (Fr.wI h2 (tb_of (g := 0) hm rfl)) (fun σ8 h3 => ?_)
      exact frp_s h3
    · skip
      refine frp_w (Fr.wI h2 (tb_of (g := 0) hm rfl)) (fun σ7 h4 => ?_)
      exact frp_s h4
  · skip
    exact frp_s h2
theorem weX3_readBracket {m : Nat} {σ0 : S2} (hm : 1 ||| m = m) (τ : Nat) (qX3_readSum : S2 → Int32 → Option (Int32 × S2)) (qX3_readProduct : S2 → Int32 → Option (Int32 × S2)) (qX3_readOperand : S2 → Int32 → Option (Int32 × S2)) (qX3_readBracket : S2 → Int32 → Option (Int32 × S2)) (hqX3_readSum : ∀ (y0 : S2) (y1 : Int32), Fr gC m σ0 y0 → FrP gC m σ0 (qX3_readSum y0 y1)) (hqX3_readProduct : ∀ (y0 : S2) (y1 : Int32), Fr gC m σ0 y0 → FrP gC m σ0 (qX3_readProduct y0 y1)) (hqX3_readOperand : ∀ (y0 : S2) (y1 : Int32), Fr gC m σ0 y0 → FrP gC m σ0 (qX3_readOperand y0 y1)) (hqX3_readBracket : ∀ (y0 : S2) (y1 : Int32), Fr gC m σ0 y0 → FrP gC m σ0 (qX3_readBracket y0 y1)) (σ : S2) (a1 : Int32) (h : Fr gC m σ0 σ) : FrP gC m σ0 (eX3_readBracket τ qX3_readSum qX3_readProduct qX3_readOperand qX3_readBracket σ a1) := by
  unfold eX3_readBracket
  exact (wfX3_readBracket_0 hm _ _ _ _ _ hqX3_readSum hqX3_readProduct hqX3_readOperand hqX3_readBracket _ _ h)
theorem wGX3_readSum {m : Nat} {σ0 : S2} (hm : 1 ||| m = m) (τ : Nat) : ∀ (d j : Nat) (σ : S2) (a1 : Int32), Fr gC m σ0 σ → FrP gC m σ0 (GX3_readSum τ d j σ a1) := by
  intro d
  induction d with
  | zero => intro j σ a1 _; exact frp_n
  | succ d ih =>
    intro j σ a1 h
    match j with
    | 0 => exact (weX3_readSum hm _ _ _ _ _ (ih 0) (ih 1) (ih 2) (ih 3) _ _ h)
    | 1 => exact (weX3_readProduct hm _ _ _ _ _ (ih 0) (ih 1) (ih 2) (ih 3) _ _ h)
    | 2 => exact (weX3_readOperand hm _ _ _ _ _ (ih 0) (ih 1) (ih 2) (ih 3) _ _ h)
    | j + 3 => exact (weX3_readBracket hm _ _ _ _ _ (ih 0) (ih 1) (ih 2) (ih 3) _ _ h)
theorem wfX3_readSum {m : Nat} {σ0 : S2} (hm : 1 ||| m = m) (τ : Nat) (σ : S2) (a1 : Int32) (h : Fr gC m σ0 σ) : FrP gC m σ0 (fX3_readSum τ σ a1) := by
  unfold fX3_readSum
  exact (wGX3_readSum hm _ _ _ _ _ h)
theorem wfX3_readProduct {m : Nat} {σ0 : S2} (hm : 1 ||| m = m) (τ : Nat) (σ : S2) (a1 : Int32) (h : Fr gC m σ0 σ) : FrP gC m σ0 (fX3_readProduct τ σ a1) := by
  unfold fX3_readProduct
  exact (wGX3_readSum hm _ _ _ _ _ h)
theorem wfX3_readOperand {m : Nat} {σ0 : S2} (hm : 1 ||| m = m) (τ : Nat) (σ : S2) (a1 : Int32) (h : Fr gC m σ0 σ) : FrP gC m σ0 (fX3_readOperand τ σ a1) := by
  unfold fX3_readOperand
  exact (wGX3_readSum hm _ _ _ _ _ h)
theorem wfX3_readBracket {m : Nat} {σ0 : S2} (hm : 1 ||| m = m) (τ : Nat) (σ : S2) (a1 : Int32) (h : Fr gC m σ0 σ) : FrP gC m σ0 (fX3_readBracket τ σ a1) := by
  unfold fX3_readBracket
  exact (wGX3_readSum hm _ _ _ _ _ h)
theorem wfX3_readWay_17 {m : Nat} {σ0 : S2} (hm : 1 ||| m = m) (τ : Nat) (σ : S2) (h : Fr gC m σ0 σ) : FrP gC m σ0 (fX3_readWay_17 τ σ) := by
  unfold fX3_readWay_17
  refine frp_w (Fr.wI h (tb_of (g := 0) hm rfl)) (fun σ1 h1 => ?_)
  exact frp_s h1
theorem wfX3_readWay_0 {m : Nat} {σ0 : S2} (hm : 1 ||| m = m) (τ : Nat) (σ : S2) (h : Fr gC m σ0 σ) : FrP gC m σ0 (fX3_readWay_0 τ σ) := by
  unfold fX3_readWay_0
  refine frp_bi (fun r2 => ?_)
  refine frp_nm (fun v4 => ?_)
  refine frp_if ?_ ?_
  · skip
    exact (wfX3_readWay_17 hm _ _ h)
  · skip
    refine frp_if ?_ ?_
    · skip
      refine frp_w (Fr.wI h (tb_of (g := 0) hm rfl)) (fun σ5 h1 => ?_)
      exact frp_s h1
    · skip
      exact (wfX3_readWay_17 hm _ _ h)
theorem wfX3_readWay {m : Nat} {σ0 : S2} (hm : 1 ||| m = m) (τ : Nat) (σ : S2) (h : Fr gC m σ0 σ) : FrP gC m σ0 (fX3_readWay τ σ) := by
  unfold fX3_readWay
  exact (wfX3_readWay_0 hm _ _ h)
theorem wfX3_readPart_50 {m : Nat} {σ0 : S2} (hm : 8388609 ||| m = m) (τ : Nat) (σ : S2) (h : Fr gC m σ0 σ) : FrP gC m σ0 (fX3_readPart_50 τ σ) := by
  unfold fX3_readPart_50
  refine frp_w (Fr.wI h (tb_of (g := 0) hm rfl)) (fun σ1 h1 => ?_)
  exact frp_s h1
theorem wfX3_readPart_36 {m : Nat} {σ0 : S2} (hm : 8388609 ||| m = m) (τ : Nat) (σ : S2) (x2 : Int32) (x3 : Int32) (s0 : Int32) (h : Fr gC m σ0 σ) : FrP gC m σ0 (fX3_readPart_36 τ σ x2 x3 s0) := by
  unfold fX3_readPart_36
  refine frp_if ?_ ?_
  · skip
    exact (wfX3_readPart_50 hm _ _ h)
  · skip
    refine frp_if ?_ ?_
    · skip
      refine frp_w (Fr.wI h (tb_of (g := 0) hm rfl)) (fun σ2 h1 => ?_)
      refine frp_bi (fun r3 => ?_)
      refine frp_if ?_ ?_
      · skip
        refine frp_w (Fr.wI h1 (tb_of (g := 0) hm rfl)) (fun σ5 h2 => ?_)
        refine frp_if ?_ ?_
        · skip
          refine frp_bs (wfX3_readSum (tb_sub (a := 8388609) rfl hm) _ _ _ h2) (fun r16 σ17 h3 => ?_)
          refine frp_bi (fun r19 => ?_)
          refine frp_w (Fr.wI h3 (tb_of (g := 23) hm rfl)) (fun σ21 h4 => ?_)
          exact frp_s h4
        · skip
          refine frp_if ?_ ?_
          · skip
            refine frp_bs (wfX3_readSum (tb_sub (a := 8388609) rfl hm) _ _ _ h2) (fun r10 σ11 h5 => ?_)
            refine frp_bi (fun r13 => ?_)
            refine frp_w (Fr.wI h5 (tb_of (g := 23) hm rfl)) (fun σ15 h6 => ?_)
            exact frp_s h6
          · skip
            refine frp_bs (wfX3_readWay (tb_sub (a := 8388609) rfl hm) _ _ h2) (fun r6 σ7 h7 => ?_)
            refine frp_w (Fr.wI h7 (tb_of (g := 23) hm rfl)) (fun σ9 h8 => ?_)
            exact frp_s h8
      · skip
        refine frp_w (Fr.wI h1 (tb_of (g := 0) hm rfl)) (fun σ22 h9 => ?_)
        exact frp_s h9
    · skip
      exact (wfX3_readPart_50 hm _ _ h)
theorem wfX3_readPart_0 {m : Nat} {σ0 : S2} (hm : 8388609 ||| m = m) (τ : Nat) (σ : S2) (x2 : Int32) (h : Fr gC m σ0 σ) : FrP gC m σ0 (fX3_readPart_0 τ σ x2) := by
  unfold fX3_readPart_0
  refine frp_bi (fun r23 => ?_)
  refine frp_if ?_ ?_
  · skip
    exact (wfX3_readPart_36 hm _ _ _ _ _ h)
  · skip
    refine frp_if ?_ ?_
    · skip
      exact (wfX3_readPart_36 hm _ _ _ _ _ h)
    · skip
      refine frp_if ?_ ?_
      · skip
        exact (wfX3_readPart_36 hm _ _ _ _ _ h)
      · skip
        exact (wfX3_readPart_36 hm _ _ _ _ _ h)
theorem wfX3_readPart {m : Nat} {σ0 : S2} (hm : 8388609 ||| m = m) (τ : Nat) (σ : S2) (a2 : Int32) (h : Fr gC m σ0 σ) : FrP gC m σ0 (fX3_readPart τ σ a2) := by
  unfold fX3_readPart
  exact (wfX3_readPart_0 hm _ _ _ h)
theorem wfX3_workOut_141 {m : Nat} {σ0 : S2} (hm : 8388609 ||| m = m) (τ : Nat) (σ : S2) (h : Fr gC m σ0 σ) : FrP gC m σ0 (fX3_workOut_141 τ σ) := by
  unfold fX3_workOut_141
  exact frp_s h
theorem wfX3_workOut_135 {m : Nat} {σ0 : S2} (hm : 8388609 ||| m = m) (τ : Nat) (k52 : S2 → Int32 → Int32 → Option (Int32 × S2)) (hk52 : ∀ (y0 : S2) (y1 : Int32) (y2 : Int32), Fr gC m σ0 y0 → FrP gC m σ0 (k52 y0 y1 y2)) (σ : S2) (x3 : Int32) (x4 : Int32) (h : Fr gC m σ0 σ) : FrP gC m σ0 (fX3_workOut_135 τ k52 σ x3 x4) := by
  unfold fX3_workOut_135
  refine frp_nm (fun v1 => ?_)
  exact (hk52 _ _ _ h)
theorem wfX3_workOut_127 {m : Nat} {σ0 : S2} (hm : 8388609 ||| m = m) (τ : Nat) (k52 : S2 → Int32 → Int32 → Option (Int32 × S2)) (hk52 : ∀ (y0 : S2) (y1 : Int32) (y2 : Int32), Fr gC m σ0 y0 → FrP gC m σ0 (k52 y0 y1 y2)) (σ : S2) (x3 : Int32) (x4 : Int32) (h : Fr gC m σ0 σ) : FrP gC m σ0 (fX3_workOut_127 τ k52 σ x3 x4) := by
  unfold fX3_workOut_127
  refine frp_w (Fr.wI h (tb_of (g := 0) hm rfl)) (fun σ2 h1 => ?_)
  exact (wfX3_workOut_135 hm _ _ hk52 _ _ _ h1)
theorem wfX3_workOut_52 {m : Nat} {σ0 : S2} (hm : 8388609 ||| m = m) (τ : Nat) : ∀ (n : Nat) (σ : S2) (x3 : Int32) (x4 : Int32), Fr gC m σ0 σ → FrP gC m σ0 (fX3_workOut_52 τ n σ x3 x4) := by
  intro n
  induction n with
  | zero => intro σ x3 x4 _; exact frp_n
  | succ n ih =>
    intro σ x3 x4 h
    unfold fX3_workOut_52
    refine frp_if ?_ ?_
    · skip
      exact (wfX3_workOut_141 hm _ _ h)
    · skip
      refine frp_if ?_ ?_
      · skip
        refine frp_bs (wfX3_readPart hm _ _ _ h) (fun r3 σ4 h1 => ?_)
        refine frp_nm (fun v6 => ?_)
        refine frp_if ?_ ?_
        · skip
          refine frp_if ?_ ?_
          · skip
            refine frp_bi (fun r7 => ?_)
            refine frp_if ?_ ?_
            · skip
              refine frp_if ?_ ?_
              · skip
                exact (wfX3_workOut_127 hm _ _ ih _ _ _ h1)
              · skip
                refine frp_w (Fr.wI h1 (tb_of (g := 0) hm rfl)) (fun σ9 h2 => ?_)
                exact (wfX3_workOut_135 hm _ _ ih _ _ _ h2)
            · skip
              exact (wfX3_workOut_127 hm _ _ ih _ _ _ h1)
          · skip
            exact (wfX3_workOut_141 hm _ _ h1)
        · skip
          exact (wfX3_workOut_141 hm _ _ h1)
      · skip
        exact (wfX3_workOut_141 hm _ _ h)
theorem wfX3_workOut_0 {m : Nat} {σ0 : S2} (hm : 8388609 ||| m = m) (τ : Nat) (σ : S2) (h : Fr gC m σ0 σ) : FrP gC m σ0 (fX3_workOut_0 τ σ) := by
  unfold fX3_workOut_0
  refine frp_w (Fr.wI h (tb_of (g := 0) hm rfl)) (fun σ10 h1 => ?_)
  refine frp_w (Fr.wI h1 (tb_of (g := 0) hm rfl)) (fun σ11 h2 => ?_)
  refine frp_w (Fr.wI h2 (tb_of (g := 0) hm rfl)) (fun σ12 h3 => ?_)
  refine frp_w (Fr.wI h3 (tb_of (g := 0) hm rfl)) (fun σ13 h4 => ?_)
  refine frp_bs (wfX3_look (tb_sub (a := 8388609) rfl hm) _ _ h4) (fun r14 σ15 h5 => ?_)
  refine frp_w (Fr.wI h5 (tb_of (g := 23) hm rfl)) (fun σ17 h6 => ?_)
  refine frp_w (Fr.wI h6 (tb_of (g := 23) hm rfl)) (fun σ18 h7 => ?_)
  refine frp_w (Fr.wI h7 (tb_of (g := 23) hm rfl)) (fun σ19 h8 => ?_)
  exact (wfX3_workOut_52 hm _ _ _ _ _ h8)
theorem wfX3_workOut {m : Nat} {σ0 : S2} (hm : 8388609 ||| m = m) (τ : Nat) (σ : S2) (h : Fr gC m σ0 σ) : FrP gC m σ0 (fX3_workOut τ σ) := by
  unfold fX3_workOut
  exact (wfX3_workOut_0 hm _ _ h)
theorem wfX4_add_0 {m : Nat} {σ0 : S2} (hm : 4 ||| m = m) (τ : Nat) (c1 : Nat) (n1 : Nat) (σ : S2) (x2 : Int32) (x3 : Int32) (h : Fr gC m σ0 σ) : FrP gC m σ0 (fX4_add_0 τ c1 n1 σ x2 x3) := by
  unfold fX4_add_0
  refine frp_if ?_ ?_
  · skip
    refine frp_ck (fun b1 => ?_)
    refine frp_cp ?_
    refine frp_w (Fr.I h (fun _ => (tr_44 (tb_of (g := 2) hm rfl) (by omega)))) (fun σ2 h2 => ?_)
    refine frp_ck (fun b3 => ?_)
    refine frp_w (Fr.wI h2 (tb_of (g := 2) hm rfl)) (fun σ3 h4 => ?_)
    refine frp_w (Fr.wI h4 (tb_of (g := 2) hm rfl)) (fun σ4 h5 => ?_)
    exact frp_s h5
  · skip
    exact frp_s h
theorem wfX4_add {m : Nat} {σ0 : S2} (hm : 4 ||| m = m) (τ : Nat) (c1 : Nat) (n1 : Nat) (σ : S2) (a2 : Int32) (a3 : Int32) (h : Fr gC m σ0 σ) : FrP gC m σ0 (fX4_add τ c1 n1 σ a2 a3) := by
  unfold fX4_add
  exact (wfX4_add_0 hm _ _ _ _ _ _ h)
theorem wfX4_addFrom_153 {m : Nat} {σ0 : S2} (hm : 5 ||| m = m) (τ : Nat) (c1 : Nat) (n1 : Nat) (k9 : S2 → Int32 → Int32 → Int32 → Int32 → Int32 → Option (Int32 × S2)) (hk9 : ∀ (y0 : S2) (y1 : Int32) (y2 : Int32) (y3 : Int32) (y4 : Int32) (y5 : Int32), Fr gC m σ0 y0 → FrP gC m σ0 (k9 y0 y1 y2 y3 y4 y5)) (σ : S2) (x2 : Int32) (x4 : Int32) (x5 : Int32) (x6 : Int32) (x7 : Int32) (h : Fr gC m σ0 σ) : FrP gC m σ0 (fX4_addFrom_153 τ c1 n1 k9 σ x2 x4 x5 x6 x7) := by
  unfold fX4_addFrom_153
  refine frp_nm (fun v1 => ?_)
  exact (hk9 _ _ _ _ _ _ h)
theorem wfX4_addFrom_74 {m : Nat} {σ0 : S2} (hm : 5 ||| m = m) (τ : Nat) (c1 : Nat) (n1 : Nat) (k9 : S2 → Int32 → Int32 → Int32 → Int32 → Int32 → Option (Int32 × S2)) (hk9 : ∀ (y0 : S2) (y1 : Int32) (y2 : Int32) (y3 : Int32) (y4 : Int32) (y5 : Int32), Fr gC m σ0 y0 → FrP gC m σ0 (k9 y0 y1 y2 y3 y4 y5)) : ∀ (n : Nat) (σ : S2) (x2 : Int32) (x4 : Int32) (x5 : Int32) (x6 : Int32) (x7 : Int32) (x10 : Int32) (x11 : Int32), Fr gC m σ0 σ → FrP gC m σ0 (fX4_addFrom_74 τ c1 n1 k9 n σ x2 x4 x5 x6 x7 x10 x11) := by
  intro n
  induction n with
  | zero => intro σ x2 x4 x5 x6 x7 x10 x11 _; exact frp_n
  | succ n ih =>
    intro σ x2 x4 x5 x6 x7 x10 x11 h
    unfold fX4_addFrom_74
    refine frp_if ?_ ?_
    · skip
      refine frp_nm (fun v2 => ?_)
      refine frp_bi (fun r3 => ?_)
      refine frp_if ?_ ?_
      · skip
        refine frp_bs (wfX4_add (tb_sub (a := 5) rfl hm) _ _ _ _ _ _ h) (fun r5 σ6 h1 => ?_)
        refine frp_if ?_ ?_
        · skip
          exact frp_s h1
        · skip
          refine frp_nm (fun v8 => ?_)
          exact (wfX4_addFrom_153 hm _ _ _ _ hk9 _ _ _ _ _ _ h1)
      · skip
        exact (wfX4_addFrom_153 hm _ _ _ _ hk9 _ _ _ _ _ _ h)
    · skip
      refine frp_ck (fun b2 => ?_)
      refine frp_nm (fun v9 => ?_)
      refine frp_ck (fun b3 => ?_)
      refine frp_w (Fr.wI h (tb_of (g := 0) hm rfl)) (fun σ10 h4 => ?_)
      refine frp_nm (fun v11 => ?_)
      exact (ih _ _ _ _ _ _ _ _ h4)
theorem wfX4_addFrom_9 {m : Nat} {σ0 : S2} (hm : 5 ||| m = m) (τ : Nat) (c1 : Nat) (n1 : Nat) : ∀ (n : Nat) (σ : S2) (x2 : Int32) (x4 : Int32) (x5 : Int32) (x6 : Int32) (x7 : Int32), Fr gC m σ0 σ → FrP gC m σ0 (fX4_addFrom_9 τ c1 n1 n σ x2 x4 x5 x6 x7) := by
  intro n
  induction n with
  | zero => intro σ x2 x4 x5 x6 x7 _; exact frp_n
  | succ n ih =>
    intro σ x2 x4 x5 x6 x7 h
    unfold fX4_addFrom_9
    refine frp_if ?_ ?_
    · skip
      exact frp_s h
    · skip
      refine frp_if ?_ ?_
      · skip
        exact frp_s h
      · skip
        refine frp_if ?_ ?_
        · skip
          refine frp_ck (fun b1 => ?_)
          refine frp_nm (fun v12 => ?_)
          refine frp_if ?_ ?_
          · skip
            exact frp_s h
          · skip
            refine frp_if ?_ ?_
            · skip
              exact frp_s h
            · skip
              refine frp_if ?_ ?_
              · skip
                refine frp_nm (fun v13 => ?_)
                exact (wfX4_addFrom_74 hm _ _ _ _ ih _ _ _ _ _ _ _ _ _ h)
              · skip
                exact frp_s h
        · skip
          exact frp_s h
theorem wfX4_addFrom_0 {m : Nat} {σ0 : S2} (hm : 5 ||| m = m) (τ : Nat) (c1 : Nat) (n1 : Nat) (σ : S2) (x2 : Int32) (x3 : Int32) (x4 : Int32) (h : Fr gC m σ0 σ) : FrP gC m σ0 (fX4_addFrom_0 τ c1 n1 σ x2 x3 x4) := by
  unfold fX4_addFrom_0
  exact (wfX4_addFrom_9 hm _ _ _ _ _ _ _ _ _ _ h)
theorem wfX4_addFrom {m : Nat} {σ0 : S2} (hm : 5 ||| m = m) (τ : Nat) (c1 : Nat) (n1 : Nat) (σ : S2) (a2 : Int32) (a3 : Int32) (a4 : Int32) (h : Fr gC m σ0 σ) : FrP gC m σ0 (fX4_addFrom τ c1 n1 σ a2 a3 a4) := by
  unfold fX4_addFrom
  exact (wfX4_addFrom_0 hm _ _ _ _ _ _ _ h)
theorem wfX8_takeLaw_0 {m : Nat} {σ0 : S2} (hm : 0 ||| m = m) (τ : Nat) (b0 : Nat) (c1 : Nat) (n1 : Nat) (hb0 : m.testBit (gT b0) = true) (σ : S2) (x2 : Int32) (h : Fr gC m σ0 σ) : FrP gC m σ0 (fX8_takeLaw_0 τ b0 c1 n1 σ x2) := by
  unfold fX8_takeLaw_0
  refine frp_w (Fr.wI h (tt_0 hb0 (by decide))) (fun σ1 h1 => ?_)
  refine frp_cp ?_
  refine frp_w (Fr.I h1 (fun _ => (tt_3 hb0))) (fun σ2 h2 => ?_)
  exact frp_s h2
theorem wfX8_takeLaw {m : Nat} {σ0 : S2} (hm : 0 ||| m = m) (τ : Nat) (b0 : Nat) (c1 : Nat) (n1 : Nat) (hb0 : m.testBit (gT b0) = true) (σ : S2) (a2 : Int32) (h : Fr gC m σ0 σ) : FrP gC m σ0 (fX8_takeLaw τ b0 c1 n1 σ a2) := by
  unfold fX8_takeLaw
  exact (wfX8_takeLaw_0 hm _ _ _ _ hb0 _ _ h)
theorem wfX8_takeAll_0 {m : Nat} {σ0 : S2} (hm : 0 ||| m = m) (τ : Nat) (b0 : Nat) (b1 : Nat) (hb0 : m.testBit (gT b0) = true) (σ : S2) (h : Fr gC m σ0 σ) : FrP gC m σ0 (fX8_takeAll_0 τ b0 b1 σ) := by
  unfold fX8_takeAll_0
  refine frp_w (Fr.wI h (tt_0 hb0 (by decide))) (fun σ1 h1 => ?_)
  refine frp_cp ?_
  refine frp_w (Fr.I h1 (fun _ => (tt_1 hb0))) (fun σ2 h2 => ?_)
  refine frp_bs (wfX8_takeLaw hm _ _ _ _ hb0 _ _ h2) (fun r3 σ4 h3 => ?_)
  refine frp_w (Fr.wI h3 (tt_0 hb0 (by decide))) (fun σ6 h4 => ?_)
  refine frp_w (Fr.wI h4 (tt_0 hb0 (by decide))) (fun σ7 h5 => ?_)
  refine frp_w (Fr.wI h5 (tt_0 hb0 (by decide))) (fun σ8 h6 => ?_)
  exact frp_s h6
theorem wfX8_takeAll {m : Nat} {σ0 : S2} (hm : 0 ||| m = m) (τ : Nat) (b0 : Nat) (b1 : Nat) (hb0 : m.testBit (gT b0) = true) (σ : S2) (h : Fr gC m σ0 σ) : FrP gC m σ0 (fX8_takeAll τ b0 b1 σ) := by
  unfold fX8_takeAll
  exact (wfX8_takeAll_0 hm _ _ _ hb0 _ h)
theorem wfJ7_fill_031fb_5 {m : Nat} {σ0 : S2} (hm : 0 ||| m = m) (τ : Nat) (c0 : Nat) (n0 : Nat) (hc0 : ∀ i, m.testBit (gC c0 i) = true) : ∀ (n : Nat) (σ : S2) (x1 : Int32) (x2 : Int32) (x3 : Int32), Fr gC m σ0 σ → FrP gC m σ0 (fJ7_fill_031fb_5 τ c0 n0 n σ x1 x2 x3) := by
  intro n
  induction n with
  | zero => intro σ x1 x2 x3 _; exact frp_n
  | succ n ih =>
    intro σ x1 x2 x3 h
    unfold fJ7_fill_031fb_5
    refine frp_if ?_ ?_
    · skip
      exact frp_s h
    · skip
      refine frp_ck (fun b1 => ?_)
      refine frp_w (Fr.wI h (hc0 _)) (fun σ1 h2 => ?_)
      refine frp_nm (fun v2 => ?_)
      exact (ih _ _ _ _ h2)
theorem wfJ7_fill_031fb_0 {m : Nat} {σ0 : S2} (hm : 0 ||| m = m) (τ : Nat) (c0 : Nat) (n0 : Nat) (hc0 : ∀ i, m.testBit (gC c0 i) = true) (σ : S2) (x1 : Int32) (h : Fr gC m σ0 σ) : FrP gC m σ0 (fJ7_fill_031fb_0 τ c0 n0 σ x1) := by
  unfold fJ7_fill_031fb_0
  refine frp_nm (fun v3 => ?_)
  exact (wfJ7_fill_031fb_5 hm _ _ _ hc0 _ _ _ _ _ h)
theorem wfJ7_fill_031fb {m : Nat} {σ0 : S2} (hm : 0 ||| m = m) (τ : Nat) (c0 : Nat) (n0 : Nat) (hc0 : ∀ i, m.testBit (gC c0 i) = true) (σ : S2) (a1 : Int32) (h : Fr gC m σ0 σ) : FrP gC m σ0 (fJ7_fill_031fb τ c0 n0 σ a1) := by
  unfold fJ7_fill_031fb
  exact (wfJ7_fill_031fb_0 hm _ _ _ hc0 _ _ h)
theorem wfX8_linkPlaces_28 {m : Nat} {σ0 : S2} (hm : 0 ||| m = m) (τ : Nat) (b0 : Nat) (k6 : S2 → Int32 → Int32 → Option (Unit × S2)) (hb0 : m.testBit (gT b0) = true) (hk6 : ∀ (y0 : S2) (y1 : Int32) (y2 : Int32), Fr gC m σ0 y0 → FrP gC m σ0 (k6 y0 y1 y2)) (σ : S2) (x1 : Int32) (x2 : Int32) (x3 : Int32) (h : Fr gC m σ0 σ) : FrP gC m σ0 (fX8_linkPlaces_28 τ b0 k6 σ x1 x2 x3) := by
  unfold fX8_linkPlaces_28
  refine frp_ck (fun b1 => ?_)
  refine frp_w (Fr.wI h (tt_5 hb0)) (fun σ1 h2 => ?_)
  refine frp_nm (fun v2 => ?_)
  exact (hk6 _ _ _ h2)
theorem wfX8_linkPlaces_6 {m : Nat} {σ0 : S2} (hm : 0 ||| m = m) (τ : Nat) (b0 : Nat) (hb0 : m.testBit (gT b0) = true) : ∀ (n : Nat) (σ : S2) (x1 : Int32) (x2 : Int32), Fr gC m σ0 σ → FrP gC m σ0 (fX8_linkPlaces_6 τ b0 n σ x1 x2) := by
  intro n
  induction n with
  | zero => intro σ x1 x2 _; exact frp_n
  | succ n ih =>
    intro σ x1 x2 h
    unfold fX8_linkPlaces_6
    refine frp_if ?_ ?_
    · skip
      exact frp_s h
    · skip
      refine frp_dz ?_
      refine frp_nm (fun v4 => ?_)
      refine frp_ck (fun b1 => ?_)
      refine frp_nm (fun v5 => ?_)
      refine frp_if ?_ ?_
      · skip
        exact (wfX8_linkPlaces_28 hm _ _ _ hb0 ih _ _ _ _ h)
      · skip
        exact (wfX8_linkPlaces_28 hm _ _ _ hb0 ih _ _ _ _ h)
theorem wfX8_linkPlaces_0 {m : Nat} {σ0 : S2} (hm : 0 ||| m = m) (τ : Nat) (b0 : Nat) (hb0 : m.testBit (gT b0) = true) (σ : S2) (h : Fr gC m σ0 σ) : FrP gC m σ0 (fX8_linkPlaces_0 τ b0 σ) := by
  unfold fX8_linkPlaces_0
  exact (wfX8_linkPlaces_6 hm _ _ hb0 _ _ _ _ h)
theorem wfX8_linkPlaces {m : Nat} {σ0 : S2} (hm : 0 ||| m = m) (τ : Nat) (b0 : Nat) (hb0 : m.testBit (gT b0) = true) (σ : S2) (h : Fr gC m σ0 σ) : FrP gC m σ0 (fX8_linkPlaces τ b0 σ) := by
  unfold fX8_linkPlaces
  exact (wfX8_linkPlaces_0 hm _ _ hb0 _ h)
theorem wfX8_seatAll_33 {m : Nat} {σ0 : S2} (hm : 1024 ||| m = m) (τ : Nat) (b0 : Nat) (k25 : S2 → Int32 → Int32 → Option (Unit × S2)) (hb0 : m.testBit (gT b0) = true) (hk25 : ∀ (y0 : S2) (y1 : Int32) (y2 : Int32), Fr gC m σ0 y0 → FrP gC m σ0 (k25 y0 y1 y2)) : ∀ (n : Nat) (σ : S2) (x1 : Int32) (x2 : Int32) (x3 : Int32), Fr gC m σ0 σ → FrP gC m σ0 (fX8_seatAll_33 τ b0 k25 n σ x1 x2 x3) := by
  intro n
  induction n with
  | zero => intro σ x1 x2 x3 _; exact frp_n
  | succ n ih =>
    intro σ x1 x2 x3 h
    unfold fX8_seatAll_33
    refine frp_ck (fun b1 => ?_)
    refine frp_nm (fun v1 => ?_)
    refine frp_if ?_ ?_
    · skip
      refine frp_nm (fun v2 => ?_)
      exact (hk25 _ _ _ h)
    · skip
      refine frp_bi (fun r3 => ?_)
      refine frp_bi (fun r5 => ?_)
      refine frp_ck (fun b2 => ?_)
      refine frp_w (Fr.wI h (tt_4 hb0)) (fun σ7 h3 => ?_)
      refine frp_w (Fr.wI h3 (tt_0 hb0 (by decide))) (fun σ8 h4 => ?_)
      refine frp_nm (fun v9 => ?_)
      exact (ih _ _ _ _ h4)
theorem wfX8_seatAll_25 {m : Nat} {σ0 : S2} (hm : 1024 ||| m = m) (τ : Nat) (b0 : Nat) (hb0 : m.testBit (gT b0) = true) : ∀ (n : Nat) (σ : S2) (x1 : Int32) (x2 : Int32), Fr gC m σ0 σ → FrP gC m σ0 (fX8_seatAll_25 τ b0 n σ x1 x2) := by
  intro n
  induction n with
  | zero => intro σ x1 x2 _; exact frp_n
  | succ n ih =>
    intro σ x1 x2 h
    unfold fX8_seatAll_25
    refine frp_if ?_ ?_
    · skip
      refine frp_bs (wfX8_linkPlaces (tb_sub (a := 1024) rfl hm) _ _ hb0 _ h) (fun r10 σ11 h1 => ?_)
      exact frp_s h1
    · skip
      exact (wfX8_seatAll_33 hm _ _ _ hb0 ih _ _ _ _ _ h)
theorem wfX8_seatAll_0 {m : Nat} {σ0 : S2} (hm : 1024 ||| m = m) (τ : Nat) (b0 : Nat) (hb0 : m.testBit (gT b0) = true) (σ : S2) (x1 : Int32) (h : Fr gC m σ0 σ) : FrP gC m σ0 (fX8_seatAll_0 τ b0 σ x1) := by
  unfold fX8_seatAll_0
  refine frp_w (Fr.wI h (tt_0 hb0 (by decide))) (fun σ13 h1 => ?_)
  refine frp_w (Fr.wI h1 (tt_0 hb0 (by decide))) (fun σ14 h2 => ?_)
  refine frp_w (Fr.wI h2 (to_0 (tb_of (g := 10) hm rfl))) (fun σ15 h3 => ?_)
  refine frp_bs (wfJ7_fill_031fb (tb_sub (a := 1024) rfl hm) _ _ _ (fun _ => (tt_4 hb0)) _ _ h3) (fun r16 σ17 h4 => ?_)
  exact (wfX8_seatAll_25 hm _ _ hb0 _ _ _ _ h4)
theorem wfX8_seatAll {m : Nat} {σ0 : S2} (hm : 1024 ||| m = m) (τ : Nat) (b0 : Nat) (hb0 : m.testBit (gT b0) = true) (σ : S2) (a1 : Int32) (h : Fr gC m σ0 σ) : FrP gC m σ0 (fX8_seatAll τ b0 σ a1) := by
  unfold fX8_seatAll
  exact (wfX8_seatAll_0 hm _ _ hb0 _ _ h)
theorem wfX5_seatSet_123 {m : Nat} {σ0 : S2} (hm : 8389633 ||| m = m) (τ : Nat) (b1 : Nat) : ∀ (n : Nat) (σ : S2) (x3 : Int32) (x4 : Int32), Fr gC m σ0 σ → FrP gC m σ0 (fX5_seatSet_123 τ b1 n σ x3 x4) := by
  intro n
  induction n with
  | zero => intro σ x3 x4 _; exact frp_n
  | succ n ih =>
    intro σ x3 x4 h
    unfold fX5_seatSet_123
    refine frp_if ?_ ?_
    · skip
      exact frp_s h
    · skip
      refine frp_bi (fun r1 => ?_)
      refine frp_bs (wfX1_choose (tb_sub (a := 8389633) rfl hm) _ 0 _ _ h) (fun r3 σ4 h1 => ?_)
      refine frp_ck (fun b2 => ?_)
      refine frp_ck (fun b3 => ?_)
      refine frp_w (Fr.wI h1 (tr_144 (tb_of (g := 0) hm rfl) (by omega))) (fun σ7 h4 => ?_)
      refine frp_nm (fun v8 => ?_)
      exact (ih _ _ _ h4)
theorem wfX5_seatSet_84 {m : Nat} {σ0 : S2} (hm : 8389633 ||| m = m) (τ : Nat) (b1 : Nat) (k8 : S2 → Int32 → Int32 → Option (Int32 × S2)) (hk8 : ∀ (y0 : S2) (y1 : Int32) (y2 : Int32), Fr gC m σ0 y0 → FrP gC m σ0 (k8 y0 y1 y2)) (σ : S2) (x3 : Int32) (x4 : Int32) (h : Fr gC m σ0 σ) : FrP gC m σ0 (fX5_seatSet_84 τ b1 k8 σ x3 x4) := by
  unfold fX5_seatSet_84
  refine frp_nm (fun v9 => ?_)
  exact (hk8 _ _ _ h)
theorem wfX5_seatSet_83 {m : Nat} {σ0 : S2} (hm : 8389633 ||| m = m) (τ : Nat) (b1 : Nat) (k8 : S2 → Int32 → Int32 → Option (Int32 × S2)) (hk8 : ∀ (y0 : S2) (y1 : Int32) (y2 : Int32), Fr gC m σ0 y0 → FrP gC m σ0 (k8 y0 y1 y2)) (σ : S2) (x3 : Int32) (x4 : Int32) (s0 : Int32) (s1 : Int32) (h : Fr gC m σ0 σ) : FrP gC m σ0 (fX5_seatSet_83 τ b1 k8 σ x3 x4 s0 s1) := by
  unfold fX5_seatSet_83
  refine frp_ck (fun b1 => ?_)
  refine frp_w (Fr.wI h (tb_of (g := 23) hm rfl)) (fun σ10 h2 => ?_)
  exact (wfX5_seatSet_84 hm _ _ _ hk8 _ _ _ h2)
theorem wfX5_seatSet_8 {m : Nat} {σ0 : S2} (hm : 8389633 ||| m = m) (τ : Nat) (b1 : Nat) : ∀ (n : Nat) (σ : S2) (x3 : Int32) (x4 : Int32), Fr gC m σ0 σ → FrP gC m σ0 (fX5_seatSet_8 τ b1 n σ x3 x4) := by
  intro n
  induction n with
  | zero => intro σ x3 x4 _; exact frp_n
  | succ n ih =>
    intro σ x3 x4 h
    unfold fX5_seatSet_8
    refine frp_if ?_ ?_
    · skip
      refine frp_if ?_ ?_
      · skip
        exact frp_s h
      · skip
        refine frp_bs (wfX3_workOut (tb_sub (a := 8389633) rfl hm) _ _ h) (fun r11 σ12 h1 => ?_)
        refine frp_bs (wfX8_seatAll (tb_sub (a := 8389633) rfl hm) _ 0 (tb_of (g := 23) hm rfl) _ _ h1) (fun r14 σ15 h2 => ?_)
        exact (wfX5_seatSet_123 hm _ _ _ _ _ _ h2)
    · skip
      refine frp_if ?_ ?_
      · skip
        exact (wfX5_seatSet_84 hm _ _ _ ih _ _ _ h)
      · skip
        refine frp_ck (fun b3 => ?_)
        refine frp_nm (fun v17 => ?_)
        refine frp_w (Fr.wI h (tb_of (g := 23) hm rfl)) (fun σ18 h4 => ?_)
        refine frp_if ?_ ?_
        · skip
          refine frp_bi (fun r19 => ?_)
          exact (wfX5_seatSet_83 hm _ _ _ ih _ _ _ _ _ h4)
        · skip
          exact (wfX5_seatSet_83 hm _ _ _ ih _ _ _ _ _ h4)
theorem wfX5_seatSet_0 {m : Nat} {σ0 : S2} (hm : 8389633 ||| m = m) (τ : Nat) (b1 : Nat) (σ : S2) (x3 : Int32) (h : Fr gC m σ0 σ) : FrP gC m σ0 (fX5_seatSet_0 τ b1 σ x3) := by
  unfold fX5_seatSet_0
  refine frp_bs (wfX8_takeAll (tb_sub (a := 8389633) rfl hm) _ 0 _ (tb_of (g := 23) hm rfl) _ h) (fun r21 σ22 h1 => ?_)
  exact (wfX5_seatSet_8 hm _ _ _ _ _ _ h1)
theorem wfX5_seatSet {m : Nat} {σ0 : S2} (hm : 8389633 ||| m = m) (τ : Nat) (b1 : Nat) (σ : S2) (a3 : Int32) (h : Fr gC m σ0 σ) : FrP gC m σ0 (fX5_seatSet τ b1 σ a3) := by
  unfold fX5_seatSet
  exact (wfX5_seatSet_0 hm _ _ _ _ h)
theorem wfX5_walk_9 {m : Nat} {σ0 : S2} (hm : 131072 ||| m = m) (τ : Nat) : ∀ (n : Nat) (σ : S2) (x1 : Int32) (x2 : Int32) (x3 : Int32), Fr gC m σ0 σ → FrP gC m σ0 (fX5_walk_9 τ n σ x1 x2 x3) := by
  intro n
  induction n with
  | zero => intro σ x1 x2 x3 _; exact frp_n
  | succ n ih =>
    intro σ x1 x2 x3 h
    unfold fX5_walk_9
    refine frp_if ?_ ?_
    · skip
      exact frp_s h
    · skip
      refine frp_if ?_ ?_
      · skip
        exact frp_s h
      · skip
        refine frp_bi (fun r1 => ?_)
        refine frp_ck (fun b1 => ?_)
        refine frp_w (Fr.wI h (tb_of (g := 17) hm rfl)) (fun σ3 h2 => ?_)
        refine frp_w (Fr.wI h2 (tb_of (g := 17) hm rfl)) (fun σ4 h3 => ?_)
        refine frp_nm (fun v5 => ?_)
        refine frp_nm (fun v6 => ?_)
        exact (ih _ _ _ _ h3)
theorem wfX5_walk_0 {m : Nat} {σ0 : S2} (hm : 131072 ||| m = m) (τ : Nat) (σ : S2) (x1 : Int32) (h : Fr gC m σ0 σ) : FrP gC m σ0 (fX5_walk_0 τ σ x1) := by
  unfold fX5_walk_0
  refine frp_w (Fr.wI h (tb_of (g := 17) hm rfl)) (fun σ7 h1 => ?_)
  exact (wfX5_walk_9 hm _ _ _ _ _ _ h1)
theorem wfX5_walk {m : Nat} {σ0 : S2} (hm : 131072 ||| m = m) (τ : Nat) (σ : S2) (a1 : Int32) (h : Fr gC m σ0 σ) : FrP gC m σ0 (fX5_walk τ σ a1) := by
  unfold fX5_walk
  exact (wfX5_walk_0 hm _ _ _ h)
theorem wfX5_leastFrom_62 {m : Nat} {σ0 : S2} (hm : 8586241 ||| m = m) (τ : Nat) (b1 : Nat) (k12 : S2 → Int32 → Int32 → Option (Int32 × S2)) (hk12 : ∀ (y0 : S2) (y1 : Int32) (y2 : Int32), Fr gC m σ0 y0 → FrP gC m σ0 (k12 y0 y1 y2)) (σ : S2) (x3 : Int32) (x4 : Int32) (h : Fr gC m σ0 σ) : FrP gC m σ0 (fX5_leastFrom_62 τ b1 k12 σ x3 x4) := by
  unfold fX5_leastFrom_62
  refine frp_nm (fun v1 => ?_)
  exact (hk12 _ _ _ h)
theorem wfX5_leastFrom_50 {m : Nat} {σ0 : S2} (hm : 8586241 ||| m = m) (τ : Nat) (b1 : Nat) (k12 : S2 → Int32 → Int32 → Option (Int32 × S2)) (hk12 : ∀ (y0 : S2) (y1 : Int32) (y2 : Int32), Fr gC m σ0 y0 → FrP gC m σ0 (k12 y0 y1 y2)) (σ : S2) (x3 : Int32) (x4 : Int32) (s0 : Int32) (s1 : Int32) (h : Fr gC m σ0 σ) : FrP gC m σ0 (fX5_leastFrom_50 τ b1 k12 σ x3 x4 s0 s1) := by
  unfold fX5_leastFrom_50
  refine frp_ck (fun b1 => ?_)
  refine frp_w (Fr.wI h (tb_of (g := 0) hm rfl)) (fun σ2 h2 => ?_)
  exact (wfX5_leastFrom_62 hm _ _ _ hk12 _ _ _ h2)
theorem wfX5_leastFrom_12 {m : Nat} {σ0 : S2} (hm : 8586241 ||| m = m) (τ : Nat) (b1 : Nat) : ∀ (n : Nat) (σ : S2) (x3 : Int32) (x4 : Int32), Fr gC m σ0 σ → FrP gC m σ0 (fX5_leastFrom_12 τ b1 n σ x3 x4) := by
  intro n
  induction n with
  | zero => intro σ x3 x4 _; exact frp_n
  | succ n ih =>
    intro σ x3 x4 h
    unfold fX5_leastFrom_12
    refine frp_if ?_ ?_
    · skip
      refine frp_ck (fun b1 => ?_)
      refine frp_nm (fun v3 => ?_)
      refine frp_if ?_ ?_
      · skip
        exact frp_s h
      · skip
        refine frp_bs (wfX5_walk (tb_sub (a := 8586241) rfl hm) _ _ _ h) (fun r4 σ5 h2 => ?_)
        refine frp_w (Fr.wI h2 (tb_of (g := 16) hm rfl)) (fun σ7 h3 => ?_)
        refine frp_ck (fun b4 => ?_)
        refine frp_nm (fun v8 => ?_)
        exact frp_s h3
    · skip
      refine frp_bs (wfX5_seatSet (tb_sub (a := 8586241) rfl hm) _ _ _ _ h) (fun r9 σ10 h5 => ?_)
      refine frp_if ?_ ?_
      · skip
        refine frp_ck (fun b6 => ?_)
        refine frp_w (Fr.wI h5 (tb_of (g := 0) hm rfl)) (fun σ12 h7 => ?_)
        exact (wfX5_leastFrom_62 hm _ _ _ ih _ _ _ h7)
      · skip
        refine frp_if ?_ ?_
        · skip
          exact (wfX5_leastFrom_50 hm _ _ _ ih _ _ _ _ _ h5)
        · skip
          refine frp_bi (fun r13 => ?_)
          exact (wfX5_leastFrom_50 hm _ _ _ ih _ _ _ _ _ h5)
theorem wfX5_leastFrom_0 {m : Nat} {σ0 : S2} (hm : 8586241 ||| m = m) (τ : Nat) (b1 : Nat) (σ : S2) (h : Fr gC m σ0 σ) : FrP gC m σ0 (fX5_leastFrom_0 τ b1 σ) := by
  unfold fX5_leastFrom_0
  refine frp_nm (fun v15 => ?_)
  exact (wfX5_leastFrom_12 hm _ _ _ _ _ _ h)
theorem wfX5_leastFrom {m : Nat} {σ0 : S2} (hm : 8586241 ||| m = m) (τ : Nat) (b1 : Nat) (σ : S2) (h : Fr gC m σ0 σ) : FrP gC m σ0 (fX5_leastFrom τ b1 σ) := by
  unfold fX5_leastFrom
  exact (wfX5_leastFrom_0 hm _ _ _ h)
theorem wfX6_isKeptFor_106 {m : Nat} {σ0 : S2} (hm : 4096 ||| m = m) (τ : Nat) (k2 : S2 → Int32 → Int32 → Int32 → Option (Int32 × S2)) (hk2 : ∀ (y0 : S2) (y1 : Int32) (y2 : Int32) (y3 : Int32), Fr gC m σ0 y0 → FrP gC m σ0 (k2 y0 y1 y2 y3)) (σ : S2) (x1 : Int32) (x2 : Int32) (x3 : Int32) (h : Fr gC m σ0 σ) : FrP gC m σ0 (fX6_isKeptFor_106 τ k2 σ x1 x2 x3) := by
  unfold fX6_isKeptFor_106
  refine frp_nm (fun v1 => ?_)
  exact (hk2 _ _ _ _ h)
theorem wfX6_isKeptFor_79 {m : Nat} {σ0 : S2} (hm : 4096 ||| m = m) (τ : Nat) (σ : S2) (x1 : Int32) (x2 : Int32) (x4 : Int32) (h : Fr gC m σ0 σ) : FrP gC m σ0 (fX6_isKeptFor_79 τ σ x1 x2 x4) := by
  unfold fX6_isKeptFor_79
  refine frp_ck (fun b1 => ?_)
  refine frp_ck (fun b2 => ?_)
  refine frp_nm (fun v3 => ?_)
  refine frp_ck (fun b3 => ?_)
  refine frp_w (Fr.wI h (tr_96 (tb_of (g := 12) hm rfl) (by omega))) (fun σ4 h4 => ?_)
  refine frp_ck (fun b5 => ?_)
  refine frp_ck (fun b6 => ?_)
  refine frp_w (Fr.wI h4 (tr_108 (tb_of (g := 12) hm rfl) (by omega))) (fun σ6 h7 => ?_)
  exact frp_s h7
theorem wfX6_isKeptFor_2 {m : Nat} {σ0 : S2} (hm : 4096 ||| m = m) (τ : Nat) : ∀ (n : Nat) (σ : S2) (x1 : Int32) (x2 : Int32) (x3 : Int32), Fr gC m σ0 σ → FrP gC m σ0 (fX6_isKeptFor_2 τ n σ x1 x2 x3) := by
  intro n
  induction n with
  | zero => intro σ x1 x2 x3 _; exact frp_n
  | succ n ih =>
    intro σ x1 x2 x3 h
    unfold fX6_isKeptFor_2
    refine frp_if ?_ ?_
    · skip
      exact frp_s h
    · skip
      refine frp_ck (fun b1 => ?_)
      refine frp_nm (fun v7 => ?_)
      refine frp_bi (fun r8 => ?_)
      refine frp_if ?_ ?_
      · skip
        refine frp_bi (fun r10 => ?_)
        refine frp_if ?_ ?_
        · skip
          exact (wfX6_isKeptFor_106 hm _ _ ih _ _ _ _ h)
        · skip
          refine frp_ck (fun b2 => ?_)
          refine frp_ck (fun b3 => ?_)
          refine frp_nm (fun v13 => ?_)
          refine frp_if ?_ ?_
          · skip
            exact (wfX6_isKeptFor_79 hm _ _ _ _ _ h)
          · skip
            refine frp_ck (fun b4 => ?_)
            refine frp_ck (fun b5 => ?_)
            refine frp_nm (fun v15 => ?_)
            refine frp_if ?_ ?_
            · skip
              exact (wfX6_isKeptFor_79 hm _ _ _ _ _ h)
            · skip
              exact (wfX6_isKeptFor_106 hm _ _ ih _ _ _ _ h)
      · skip
        exact (wfX6_isKeptFor_106 hm _ _ ih _ _ _ _ h)
theorem wfX6_isKeptFor_0 {m : Nat} {σ0 : S2} (hm : 4096 ||| m = m) (τ : Nat) (σ : S2) (x1 : Int32) (x2 : Int32) (h : Fr gC m σ0 σ) : FrP gC m σ0 (fX6_isKeptFor_0 τ σ x1 x2) := by
  unfold fX6_isKeptFor_0
  exact (wfX6_isKeptFor_2 hm _ _ _ _ _ _ h)
theorem wfX6_isKeptFor {m : Nat} {σ0 : S2} (hm : 4096 ||| m = m) (τ : Nat) (σ : S2) (a1 : Int32) (a2 : Int32) (h : Fr gC m σ0 σ) : FrP gC m σ0 (fX6_isKeptFor τ σ a1 a2) := by
  unfold fX6_isKeptFor
  exact (wfX6_isKeptFor_0 hm _ _ _ _ h)
theorem wfX6_takesGreater_0 {m : Nat} {σ0 : S2} (hm : 2048 ||| m = m) (τ : Nat) (σ : S2) (x1 : Int32) (x2 : Int32) (x3 : Int32) (h : Fr gC m σ0 σ) : FrP gC m σ0 (fX6_takesGreater_0 τ σ x1 x2 x3) := by
  unfold fX6_takesGreater_0
  refine frp_ck (fun b1 => ?_)
  refine frp_ck (fun b2 => ?_)
  refine frp_nm (fun v2 => ?_)
  refine frp_if ?_ ?_
  · skip
    refine frp_ck (fun b3 => ?_)
    refine frp_ck (fun b4 => ?_)
    refine frp_w (Fr.wI h (tr_84 (tb_of (g := 11) hm rfl) (by omega))) (fun σ4 h5 => ?_)
    exact frp_s h5
  · skip
    exact frp_s h
theorem wfX6_takesGreater {m : Nat} {σ0 : S2} (hm : 2048 ||| m = m) (τ : Nat) (σ : S2) (a1 : Int32) (a2 : Int32) (a3 : Int32) (h : Fr gC m σ0 σ) : FrP gC m σ0 (fX6_takesGreater τ σ a1 a2 a3) := by
  unfold fX6_takesGreater
  exact (wfX6_takesGreater_0 hm _ _ _ _ _ h)
theorem wfX6_receives_0 {m : Nat} {σ0 : S2} (hm : 2048 ||| m = m) (τ : Nat) (σ : S2) (x1 : Int32) (x2 : Int32) (x3 : Int32) (h : Fr gC m σ0 σ) : FrP gC m σ0 (fX6_receives_0 τ σ x1 x2 x3) := by
  unfold fX6_receives_0
  refine frp_bi (fun r1 => ?_)
  refine frp_if ?_ ?_
  · skip
    exact frp_s h
  · skip
    refine frp_bs (wfX6_takesGreater hm _ _ _ _ _ h) (fun r3 σ4 h1 => ?_)
    refine frp_if ?_ ?_
    · skip
      exact frp_s h1
    · skip
      exact frp_s h1
theorem wfX6_receives {m : Nat} {σ0 : S2} (hm : 2048 ||| m = m) (τ : Nat) (σ : S2) (a1 : Int32) (a2 : Int32) (a3 : Int32) (h : Fr gC m σ0 σ) : FrP gC m σ0 (fX6_receives τ σ a1 a2 a3) := by
  unfold fX6_receives
  exact (wfX6_receives_0 hm _ _ _ _ _ h)
theorem wfX6_reaches_0 {m : Nat} {σ0 : S2} (hm : 6144 ||| m = m) (τ : Nat) (σ : S2) (x1 : Int32) (x2 : Int32) (h : Fr gC m σ0 σ) : FrP gC m σ0 (fX6_reaches_0 τ σ x1 x2) := by
  unfold fX6_reaches_0
  refine frp_ck (fun b1 => ?_)
  refine frp_nm (fun v1 => ?_)
  refine frp_if ?_ ?_
  · skip
    refine frp_ck (fun b2 => ?_)
    refine frp_nm (fun v2 => ?_)
    refine frp_if ?_ ?_
    · skip
      refine frp_bs (wfX6_isKeptFor (tb_sub (a := 6144) rfl hm) _ _ _ _ h) (fun r8 σ9 h3 => ?_)
      refine frp_zb ?_
      exact frp_s h3
    · skip
      refine frp_ck (fun b4 => ?_)
      refine frp_nm (fun v3 => ?_)
      refine frp_bs (wfX6_receives (tb_sub (a := 6144) rfl hm) _ _ _ _ _ h) (fun r4 σ5 h5 => ?_)
      refine frp_zb ?_
      exact frp_s h5
  · skip
    exact frp_s h
theorem wfX6_reaches {m : Nat} {σ0 : S2} (hm : 6144 ||| m = m) (τ : Nat) (σ : S2) (a1 : Int32) (a2 : Int32) (h : Fr gC m σ0 σ) : FrP gC m σ0 (fX6_reaches τ σ a1 a2) := by
  unfold fX6_reaches
  exact (wfX6_reaches_0 hm _ _ _ _ h)
theorem wfX6_spread_78 {m : Nat} {σ0 : S2} (hm : 55297 ||| m = m) (τ : Nat) (b1 : Nat) (k45 : S2 → Int32 → Int32 → Int32 → Option (Int32 × S2)) (hk45 : ∀ (y0 : S2) (y1 : Int32) (y2 : Int32) (y3 : Int32), Fr gC m σ0 y0 → FrP gC m σ0 (k45 y0 y1 y2 y3)) (σ : S2) (x2 : Int32) (x3 : Int32) (x4 : Int32) (h : Fr gC m σ0 σ) : FrP gC m σ0 (fX6_spread_78 τ b1 k45 σ x2 x3 x4) := by
  unfold fX6_spread_78
  refine frp_nm (fun v1 => ?_)
  exact (hk45 _ _ _ _ h)
theorem wfX6_spread_45 {m : Nat} {σ0 : S2} (hm : 55297 ||| m = m) (τ : Nat) (b1 : Nat) : ∀ (n : Nat) (σ : S2) (x2 : Int32) (x3 : Int32) (x4 : Int32), Fr gC m σ0 σ → FrP gC m σ0 (fX6_spread_45 τ b1 n σ x2 x3 x4) := by
  intro n
  induction n with
  | zero => intro σ x2 x3 x4 _; exact frp_n
  | succ n ih =>
    intro σ x2 x3 x4 h
    unfold fX6_spread_45
    refine frp_if ?_ ?_
    · skip
      exact frp_s h
    · skip
      refine frp_ck (fun b1 => ?_)
      refine frp_nm (fun v2 => ?_)
      refine frp_bs (wfX6_reaches (tb_sub (a := 55297) rfl hm) _ _ _ _ h) (fun r3 σ4 h2 => ?_)
      refine frp_if ?_ ?_
      · skip
        exact (wfX6_spread_78 hm _ _ _ ih _ _ _ _ h2)
      · skip
        refine frp_nm (fun v6 => ?_)
        exact (wfX6_spread_78 hm _ _ _ ih _ _ _ _ h2)
theorem wfX6_spread_0 {m : Nat} {σ0 : S2} (hm : 55297 ||| m = m) (τ : Nat) (b1 : Nat) (σ : S2) (x2 : Int32) (h : Fr gC m σ0 σ) : FrP gC m σ0 (fX6_spread_0 τ b1 σ x2) := by
  unfold fX6_spread_0
  refine frp_w (Fr.wI h (tb_of (g := 15) hm rfl)) (fun σ7 h1 => ?_)
  refine frp_ck (fun b2 => ?_)
  refine frp_nm (fun v8 => ?_)
  refine frp_ck (fun b3 => ?_)
  refine frp_w (Fr.wI h1 (tb_of (g := 14) hm rfl)) (fun σ9 h4 => ?_)
  refine frp_bi (fun r10 => ?_)
  refine frp_bs (wfX1_choose (tb_sub (a := 55297) rfl hm) _ _ _ _ h4) (fun r12 σ13 h5 => ?_)
  exact (wfX6_spread_45 hm _ _ _ _ _ _ _ h5)
theorem wfX6_spread {m : Nat} {σ0 : S2} (hm : 55297 ||| m = m) (τ : Nat) (b1 : Nat) (σ : S2) (a2 : Int32) (h : Fr gC m σ0 σ) : FrP gC m σ0 (fX6_spread τ b1 σ a2) := by
  unfold fX6_spread
  exact (wfX6_spread_0 hm _ _ _ _ h)
theorem wfX6_handBack_76 {m : Nat} {σ0 : S2} (hm : 6144 ||| m = m) (τ : Nat) (k15 : S2 → Int32 → Int32 → Int32 → Option (Unit × S2)) (hk15 : ∀ (y0 : S2) (y1 : Int32) (y2 : Int32) (y3 : Int32), Fr gC m σ0 y0 → FrP gC m σ0 (k15 y0 y1 y2 y3)) (σ : S2) (x1 : Int32) (x2 : Int32) (x3 : Int32) (h : Fr gC m σ0 σ) : FrP gC m σ0 (fX6_handBack_76 τ k15 σ x1 x2 x3) := by
  unfold fX6_handBack_76
  refine frp_nm (fun v1 => ?_)
  exact (hk15 _ _ _ _ h)
theorem wfX6_handBack_15 {m : Nat} {σ0 : S2} (hm : 6144 ||| m = m) (τ : Nat) (k2 : S2 → Int32 → Int32 → Option (Unit × S2)) (hk2 : ∀ (y0 : S2) (y1 : Int32) (y2 : Int32), Fr gC m σ0 y0 → FrP gC m σ0 (k2 y0 y1 y2)) : ∀ (n : Nat) (σ : S2) (x1 : Int32) (x2 : Int32) (x3 : Int32), Fr gC m σ0 σ → FrP gC m σ0 (fX6_handBack_15 τ k2 n σ x1 x2 x3) := by
  intro n
  induction n with
  | zero => intro σ x1 x2 x3 _; exact frp_n
  | succ n ih =>
    intro σ x1 x2 x3 h
    unfold fX6_handBack_15
    refine frp_if ?_ ?_
    · skip
      refine frp_nm (fun v2 => ?_)
      exact (hk2 _ _ _ h)
    · skip
      refine frp_ck (fun b1 => ?_)
      refine frp_ck (fun b2 => ?_)
      refine frp_nm (fun v4 => ?_)
      refine frp_if ?_ ?_
      · skip
        exact (wfX6_handBack_76 hm _ _ ih _ _ _ _ h)
      · skip
        refine frp_ck (fun b3 => ?_)
        refine frp_ck (fun b4 => ?_)
        refine frp_nm (fun v6 => ?_)
        refine frp_if ?_ ?_
        · skip
          refine frp_ck (fun b5 => ?_)
          refine frp_ck (fun b6 => ?_)
          refine frp_nm (fun v8 => ?_)
          refine frp_bs (wfX6_takesGreater (tb_sub (a := 6144) rfl hm) _ _ _ _ _ h) (fun r9 σ10 h7 => ?_)
          refine frp_ck (fun b8 => ?_)
          refine frp_ck (fun b9 => ?_)
          refine frp_w (Fr.wI h7 (tr_96 (tb_of (g := 12) hm rfl) (by omega))) (fun σ13 h10 => ?_)
          exact (wfX6_handBack_76 hm _ _ ih _ _ _ _ h10)
        · skip
          exact (wfX6_handBack_76 hm _ _ ih _ _ _ _ h)
theorem wfX6_handBack_2 {m : Nat} {σ0 : S2} (hm : 6144 ||| m = m) (τ : Nat) : ∀ (n : Nat) (σ : S2) (x1 : Int32) (x2 : Int32), Fr gC m σ0 σ → FrP gC m σ0 (fX6_handBack_2 τ n σ x1 x2) := by
  intro n
  induction n with
  | zero => intro σ x1 x2 _; exact frp_n
  | succ n ih =>
    intro σ x1 x2 h
    unfold fX6_handBack_2
    refine frp_if ?_ ?_
    · skip
      exact frp_s h
    · skip
      exact (wfX6_handBack_15 hm _ _ ih _ _ _ _ _ h)
theorem wfX6_handBack_0 {m : Nat} {σ0 : S2} (hm : 6144 ||| m = m) (τ : Nat) (σ : S2) (x1 : Int32) (h : Fr gC m σ0 σ) : FrP gC m σ0 (fX6_handBack_0 τ σ x1) := by
  unfold fX6_handBack_0
  exact (wfX6_handBack_2 hm _ _ _ _ _ h)
theorem wfX6_handBack {m : Nat} {σ0 : S2} (hm : 6144 ||| m = m) (τ : Nat) (σ : S2) (a1 : Int32) (h : Fr gC m σ0 σ) : FrP gC m σ0 (fX6_handBack τ σ a1) := by
  unfold fX6_handBack
  exact (wfX6_handBack_0 hm _ _ _ h)
theorem wfJ7_fill_53178_5 {m : Nat} {σ0 : S2} (hm : 0 ||| m = m) (τ : Nat) (c0 : Nat) (n0 : Nat) (hc0 : ∀ i, m.testBit (gC c0 i) = true) : ∀ (n : Nat) (σ : S2) (x1 : Int32) (x2 : Int32) (x3 : Int32), Fr gC m σ0 σ → FrP gC m σ0 (fJ7_fill_53178_5 τ c0 n0 n σ x1 x2 x3) := by
  intro n
  induction n with
  | zero => intro σ x1 x2 x3 _; exact frp_n
  | succ n ih =>
    intro σ x1 x2 x3 h
    unfold fJ7_fill_53178_5
    refine frp_if ?_ ?_
    · skip
      exact frp_s h
    · skip
      refine frp_ck (fun b1 => ?_)
      refine frp_w (Fr.wI h (hc0 _)) (fun σ1 h2 => ?_)
      refine frp_nm (fun v2 => ?_)
      exact (ih _ _ _ _ h2)
theorem wfJ7_fill_53178_0 {m : Nat} {σ0 : S2} (hm : 0 ||| m = m) (τ : Nat) (c0 : Nat) (n0 : Nat) (hc0 : ∀ i, m.testBit (gC c0 i) = true) (σ : S2) (x1 : Int32) (h : Fr gC m σ0 σ) : FrP gC m σ0 (fJ7_fill_53178_0 τ c0 n0 σ x1) := by
  unfold fJ7_fill_53178_0
  refine frp_nm (fun v3 => ?_)
  exact (wfJ7_fill_53178_5 hm _ _ _ hc0 _ _ _ _ _ h)
theorem wfJ7_fill_53178 {m : Nat} {σ0 : S2} (hm : 0 ||| m = m) (τ : Nat) (c0 : Nat) (n0 : Nat) (hc0 : ∀ i, m.testBit (gC c0 i) = true) (σ : S2) (a1 : Int32) (h : Fr gC m σ0 σ) : FrP gC m σ0 (fJ7_fill_53178 τ c0 n0 σ a1) := by
  unfold fJ7_fill_53178
  exact (wfJ7_fill_53178_0 hm _ _ _ hc0 _ _ h)
theorem wfX6_empty_0 {m : Nat} {σ0 : S2} (hm : 6144 ||| m = m) (τ : Nat) (σ : S2) (x1 : Int32) (h : Fr gC m σ0 σ) : FrP gC m σ0 (fX6_empty_0 τ σ x1) := by
  unfold fX6_empty_0
  refine frp_ck (fun b1 => ?_)
  refine frp_bs (wfJ7_fill_53178 (tb_sub (a := 6144) rfl hm) _ _ _ (fun _ => (tr_84 (tb_of (g := 11) hm rfl) (by omega))) _ _ h) (fun r2 σ3 h2 => ?_)
  refine frp_ck (fun b3 => ?_)
  refine frp_bs (wfJ7_fill_53178 (tb_sub (a := 6144) rfl hm) _ _ _ (fun _ => (tr_96 (tb_of (g := 12) hm rfl) (by omega))) _ _ h2) (fun r6 σ7 h4 => ?_)
  exact frp_s h4
theorem wfX6_empty {m : Nat} {σ0 : S2} (hm : 6144 ||| m = m) (τ : Nat) (σ : S2) (a1 : Int32) (h : Fr gC m σ0 σ) : FrP gC m σ0 (fX6_empty τ σ a1) := by
  unfold fX6_empty
  exact (wfX6_empty_0 hm _ _ _ h)
theorem wfX6_greatestFor_75 {m : Nat} {σ0 : S2} (hm : 1 ||| m = m) (τ : Nat) (b1 : Nat) (k25 : S2 → Int32 → Int32 → Int32 → Option (Int32 × S2)) (hk25 : ∀ (y0 : S2) (y1 : Int32) (y2 : Int32) (y3 : Int32), Fr gC m σ0 y0 → FrP gC m σ0 (k25 y0 y1 y2 y3)) (σ : S2) (x2 : Int32) (x3 : Int32) (x4 : Int32) (h : Fr gC m σ0 σ) : FrP gC m σ0 (fX6_greatestFor_75 τ b1 k25 σ x2 x3 x4) := by
  unfold fX6_greatestFor_75
  refine frp_nm (fun v1 => ?_)
  exact (hk25 _ _ _ _ h)
theorem wfX6_greatestFor_25 {m : Nat} {σ0 : S2} (hm : 1 ||| m = m) (τ : Nat) (b1 : Nat) : ∀ (n : Nat) (σ : S2) (x2 : Int32) (x3 : Int32) (x4 : Int32), Fr gC m σ0 σ → FrP gC m σ0 (fX6_greatestFor_25 τ b1 n σ x2 x3 x4) := by
  intro n
  induction n with
  | zero => intro σ x2 x3 x4 _; exact frp_n
  | succ n ih =>
    intro σ x2 x3 x4 h
    unfold fX6_greatestFor_25
    refine frp_if ?_ ?_
    · skip
      exact frp_s h
    · skip
      refine frp_ck (fun b1 => ?_)
      refine frp_nm (fun v2 => ?_)
      refine frp_bi (fun r3 => ?_)
      refine frp_if ?_ ?_
      · skip
        exact (wfX6_greatestFor_75 hm _ _ _ ih _ _ _ _ h)
      · skip
        refine frp_ck (fun b2 => ?_)
        refine frp_ck (fun b3 => ?_)
        refine frp_nm (fun v6 => ?_)
        refine frp_nm (fun v7 => ?_)
        exact (wfX6_greatestFor_75 hm _ _ _ ih _ _ _ _ h)
theorem wfX6_greatestFor_0 {m : Nat} {σ0 : S2} (hm : 1 ||| m = m) (τ : Nat) (b1 : Nat) (σ : S2) (x2 : Int32) (h : Fr gC m σ0 σ) : FrP gC m σ0 (fX6_greatestFor_0 τ b1 σ x2) := by
  unfold fX6_greatestFor_0
  refine frp_bi (fun r8 => ?_)
  refine frp_bs (wfX1_choose hm _ _ _ _ h) (fun r10 σ11 h1 => ?_)
  exact (wfX6_greatestFor_25 hm _ _ _ _ _ _ _ h1)
theorem wfX6_greatestFor {m : Nat} {σ0 : S2} (hm : 1 ||| m = m) (τ : Nat) (b1 : Nat) (σ : S2) (a2 : Int32) (h : Fr gC m σ0 σ) : FrP gC m σ0 (fX6_greatestFor τ b1 σ a2) := by
  unfold fX6_greatestFor
  exact (wfX6_greatestFor_0 hm _ _ _ _ h)
theorem wfX6_movePiece_22 {m : Nat} {σ0 : S2} (hm : 10240 ||| m = m) (τ : Nat) (σ : S2) (x1 : Int32) (x2 : Int32) (h : Fr gC m σ0 σ) : FrP gC m σ0 (fX6_movePiece_22 τ σ x1 x2) := by
  unfold fX6_movePiece_22
  refine frp_ck (fun b1 => ?_)
  refine frp_ck (fun b2 => ?_)
  refine frp_w (Fr.wI h (tr_120 (tb_of (g := 13) hm rfl) (by omega))) (fun σ2 h3 => ?_)
  exact frp_s h3
theorem wfX6_movePiece_54 {m : Nat} {σ0 : S2} (hm : 10240 ||| m = m) (τ : Nat) (σ : S2) (x1 : Int32) (x2 : Int32) (x3 : Int32) (h : Fr gC m σ0 σ) : FrP gC m σ0 (fX6_movePiece_54 τ σ x1 x2 x3) := by
  unfold fX6_movePiece_54
  refine frp_ck (fun b1 => ?_)
  refine frp_ck (fun b2 => ?_)
  refine frp_w (Fr.wI h (tr_132 (tb_of (g := 13) hm rfl) (by omega))) (fun σ4 h3 => ?_)
  refine frp_ck (fun b4 => ?_)
  refine frp_ck (fun b5 => ?_)
  refine frp_nm (fun v6 => ?_)
  refine frp_ck (fun b6 => ?_)
  refine frp_w (Fr.wI h3 (tr_120 (tb_of (g := 13) hm rfl) (by omega))) (fun σ7 h7 => ?_)
  refine frp_ck (fun b8 => ?_)
  refine frp_ck (fun b9 => ?_)
  refine frp_nm (fun v9 => ?_)
  refine frp_if ?_ ?_
  · skip
    refine frp_ck (fun b10 => ?_)
    refine frp_ck (fun b11 => ?_)
    refine frp_nm (fun v11 => ?_)
    refine frp_bs (wfX6_takesGreater (tb_sub (a := 10240) rfl hm) _ _ _ _ _ h7) (fun r12 σ13 h12 => ?_)
    refine frp_ck (fun b13 => ?_)
    refine frp_ck (fun b14 => ?_)
    refine frp_w (Fr.wI h12 (tr_84 (tb_of (g := 11) hm rfl) (by omega))) (fun σ16 h15 => ?_)
    refine frp_ck (fun b16 => ?_)
    refine frp_ck (fun b17 => ?_)
    refine frp_w (Fr.wI h15 (tr_120 (tb_of (g := 13) hm rfl) (by omega))) (fun σ18 h18 => ?_)
    exact frp_s h18
  · skip
    refine frp_ck (fun b19 => ?_)
    refine frp_ck (fun b20 => ?_)
    refine frp_nm (fun v20 => ?_)
    exact frp_s h7
theorem wfX6_movePiece_0 {m : Nat} {σ0 : S2} (hm : 10240 ||| m = m) (τ : Nat) (σ : S2) (x1 : Int32) (x2 : Int32) (x3 : Int32) (h : Fr gC m σ0 σ) : FrP gC m σ0 (fX6_movePiece_0 τ σ x1 x2 x3) := by
  unfold fX6_movePiece_0
  refine frp_bi (fun r21 => ?_)
  refine frp_if ?_ ?_
  · skip
    exact (wfX6_movePiece_22 hm _ _ _ _ h)
  · skip
    refine frp_bi (fun r23 => ?_)
    refine frp_if ?_ ?_
    · skip
      exact (wfX6_movePiece_22 hm _ _ _ _ h)
    · skip
      refine frp_ck (fun b1 => ?_)
      refine frp_ck (fun b2 => ?_)
      refine frp_nm (fun v26 => ?_)
      refine frp_if ?_ ?_
      · skip
        exact (wfX6_movePiece_54 hm _ _ _ _ _ h)
      · skip
        refine frp_ck (fun b3 => ?_)
        refine frp_ck (fun b4 => ?_)
        refine frp_w (Fr.wI h (tr_120 (tb_of (g := 13) hm rfl) (by omega))) (fun σ28 h5 => ?_)
        exact (wfX6_movePiece_54 hm _ _ _ _ _ h5)
theorem wfX6_movePiece {m : Nat} {σ0 : S2} (hm : 10240 ||| m = m) (τ : Nat) (σ : S2) (a1 : Int32) (a2 : Int32) (a3 : Int32) (h : Fr gC m σ0 σ) : FrP gC m σ0 (fX6_movePiece τ σ a1 a2 a3) := by
  unfold fX6_movePiece
  exact (wfX6_movePiece_0 hm _ _ _ _ _ h)
theorem wfX6_mendAll_110 {m : Nat} {σ0 : S2} (hm : 2049 ||| m = m) (τ : Nat) (b1 : Nat) (k4 : S2 → Int32 → Int32 → Option (Int32 × S2)) (hk4 : ∀ (y0 : S2) (y1 : Int32) (y2 : Int32), Fr gC m σ0 y0 → FrP gC m σ0 (k4 y0 y1 y2)) (σ : S2) (x2 : Int32) (x3 : Int32) (h : Fr gC m σ0 σ) : FrP gC m σ0 (fX6_mendAll_110 τ b1 k4 σ x2 x3) := by
  unfold fX6_mendAll_110
  refine frp_nm (fun v1 => ?_)
  exact (hk4 _ _ _ h)
theorem wfX6_mendAll_104 {m : Nat} {σ0 : S2} (hm : 2049 ||| m = m) (τ : Nat) (b1 : Nat) (k53 : S2 → Int32 → Int32 → Int32 → Int32 → Option (Int32 × S2)) (hk53 : ∀ (y0 : S2) (y1 : Int32) (y2 : Int32) (y3 : Int32) (y4 : Int32), Fr gC m σ0 y0 → FrP gC m σ0 (k53 y0 y1 y2 y3 y4)) (σ : S2) (x2 : Int32) (x3 : Int32) (x4 : Int32) (x5 : Int32) (h : Fr gC m σ0 σ) : FrP gC m σ0 (fX6_mendAll_104 τ b1 k53 σ x2 x3 x4 x5) := by
  unfold fX6_mendAll_104
  refine frp_nm (fun v2 => ?_)
  exact (hk53 _ _ _ _ _ h)
theorem wfX6_mendAll_53 {m : Nat} {σ0 : S2} (hm : 2049 ||| m = m) (τ : Nat) (b1 : Nat) (k4 : S2 → Int32 → Int32 → Option (Int32 × S2)) (hk4 : ∀ (y0 : S2) (y1 : Int32) (y2 : Int32), Fr gC m σ0 y0 → FrP gC m σ0 (k4 y0 y1 y2)) : ∀ (n : Nat) (σ : S2) (x2 : Int32) (x3 : Int32) (x4 : Int32) (x5 : Int32), Fr gC m σ0 σ → FrP gC m σ0 (fX6_mendAll_53 τ b1 k4 n σ x2 x3 x4 x5) := by
  intro n
  induction n with
  | zero => intro σ x2 x3 x4 x5 _; exact frp_n
  | succ n ih =>
    intro σ x2 x3 x4 x5 h
    unfold fX6_mendAll_53
    refine frp_if ?_ ?_
    · skip
      exact (wfX6_mendAll_110 hm _ _ _ hk4 _ _ _ h)
    · skip
      refine frp_ck (fun b1 => ?_)
      refine frp_nm (fun v3 => ?_)
      refine frp_bi (fun r4 => ?_)
      refine frp_if ?_ ?_
      · skip
        exact (wfX6_mendAll_104 hm _ _ _ ih _ _ _ _ _ h)
      · skip
        refine frp_bs (wfX6_receives (tb_sub (a := 2049) rfl hm) _ _ _ _ _ h) (fun r6 σ7 h2 => ?_)
        refine frp_if ?_ ?_
        · skip
          exact (wfX6_mendAll_104 hm _ _ _ ih _ _ _ _ _ h2)
        · skip
          refine frp_nm (fun v9 => ?_)
          exact (wfX6_mendAll_104 hm _ _ _ ih _ _ _ _ _ h2)
theorem wfX6_mendAll_4 {m : Nat} {σ0 : S2} (hm : 2049 ||| m = m) (τ : Nat) (b1 : Nat) : ∀ (n : Nat) (σ : S2) (x2 : Int32) (x3 : Int32), Fr gC m σ0 σ → FrP gC m σ0 (fX6_mendAll_4 τ b1 n σ x2 x3) := by
  intro n
  induction n with
  | zero => intro σ x2 x3 _; exact frp_n
  | succ n ih =>
    intro σ x2 x3 h
    unfold fX6_mendAll_4
    refine frp_if ?_ ?_
    · skip
      exact frp_s h
    · skip
      refine frp_bi (fun r10 => ?_)
      refine frp_if ?_ ?_
      · skip
        exact (wfX6_mendAll_110 hm _ _ _ ih _ _ _ h)
      · skip
        refine frp_bi (fun r12 => ?_)
        refine frp_bs (wfX1_choose (tb_sub (a := 2049) rfl hm) _ _ _ _ h) (fun r14 σ15 h1 => ?_)
        exact (wfX6_mendAll_53 hm _ _ _ ih _ _ _ _ _ _ h1)
theorem wfX6_mendAll_0 {m : Nat} {σ0 : S2} (hm : 2049 ||| m = m) (τ : Nat) (b1 : Nat) (σ : S2) (h : Fr gC m σ0 σ) : FrP gC m σ0 (fX6_mendAll_0 τ b1 σ) := by
  unfold fX6_mendAll_0
  exact (wfX6_mendAll_4 hm _ _ _ _ _ _ h)
theorem wfX6_mendAll {m : Nat} {σ0 : S2} (hm : 2049 ||| m = m) (τ : Nat) (b1 : Nat) (σ : S2) (h : Fr gC m σ0 σ) : FrP gC m σ0 (fX6_mendAll τ b1 σ) := by
  unfold fX6_mendAll
  exact (wfX6_mendAll_0 hm _ _ _ h)
theorem wfX6_grow_51 {m : Nat} {σ0 : S2} (hm : 0 ||| m = m) (τ : Nat) (c1 : Nat) (n1 : Nat) (hc1 : ∀ i, m.testBit (gC c1 i) = true) : ∀ (n : Nat) (σ : S2) (x3 : Int32), Fr gC m σ0 σ → FrP gC m σ0 (fX6_grow_51 τ c1 n1 n σ x3) := by
  intro n
  induction n with
  | zero => intro σ x3 _; exact frp_n
  | succ n ih =>
    intro σ x3 h
    unfold fX6_grow_51
    refine frp_if ?_ ?_
    · skip
      exact frp_s h
    · skip
      refine frp_ck (fun b1 => ?_)
      refine frp_nm (fun v1 => ?_)
      refine frp_ck (fun b2 => ?_)
      refine frp_nm (fun v2 => ?_)
      refine frp_ck (fun b3 => ?_)
      refine frp_w (Fr.wI h (hc1 _)) (fun σ3 h4 => ?_)
      refine frp_nm (fun v4 => ?_)
      exact (ih _ _ h4)
theorem wfX6_grow_7 {m : Nat} {σ0 : S2} (hm : 0 ||| m = m) (τ : Nat) (c1 : Nat) (n1 : Nat) (hc1 : ∀ i, m.testBit (gC c1 i) = true) : ∀ (n : Nat) (σ : S2) (x2 : Int32) (x3 : Int32), Fr gC m σ0 σ → FrP gC m σ0 (fX6_grow_7 τ c1 n1 n σ x2 x3) := by
  intro n
  induction n with
  | zero => intro σ x2 x3 _; exact frp_n
  | succ n ih =>
    intro σ x2 x3 h
    unfold fX6_grow_7
    refine frp_if ?_ ?_
    · skip
      exact (wfX6_grow_51 hm _ _ _ hc1 _ _ _ h)
    · skip
      refine frp_dz ?_
      refine frp_ck (fun b1 => ?_)
      refine frp_nm (fun v6 => ?_)
      refine frp_ck (fun b2 => ?_)
      refine frp_ck (fun b3 => ?_)
      refine frp_nm (fun v8 => ?_)
      refine frp_ck (fun b4 => ?_)
      refine frp_w (Fr.wI h (hc1 _)) (fun σ9 h5 => ?_)
      refine frp_nm (fun v10 => ?_)
      exact (ih _ _ _ h5)
theorem wfX6_grow_0 {m : Nat} {σ0 : S2} (hm : 0 ||| m = m) (τ : Nat) (c1 : Nat) (n1 : Nat) (hc1 : ∀ i, m.testBit (gC c1 i) = true) (σ : S2) (x2 : Int32) (h : Fr gC m σ0 σ) : FrP gC m σ0 (fX6_grow_0 τ c1 n1 σ x2) := by
  unfold fX6_grow_0
  refine frp_bs (wfJ7_fill_53178 hm _ _ _ hc1 _ _ h) (fun r11 σ12 h1 => ?_)
  exact (wfX6_grow_7 hm _ _ _ hc1 _ _ _ _ h1)
theorem wfX6_grow {m : Nat} {σ0 : S2} (hm : 0 ||| m = m) (τ : Nat) (c1 : Nat) (n1 : Nat) (hc1 : ∀ i, m.testBit (gC c1 i) = true) (σ : S2) (a2 : Int32) (h : Fr gC m σ0 σ) : FrP gC m σ0 (fX6_grow τ c1 n1 σ a2) := by
  unfold fX6_grow
  exact (wfX6_grow_0 hm _ _ _ hc1 _ _ h)
theorem wfX6_compare_0 {m : Nat} {σ0 : S2} (hm : 1 ||| m = m) (τ : Nat) (σ : S2) (x1 : Int32) (x2 : Int32) (h : Fr gC m σ0 σ) : FrP gC m σ0 (fX6_compare_0 τ σ x1 x2) := by
  unfold fX6_compare_0
  refine frp_bs (wfX6_grow (tb_sub (a := 1) rfl hm) _ _ _ (fun _ => (tb_of (g := 0) hm rfl)) _ _ h) (fun r1 σ2 h1 => ?_)
  refine frp_bs (wfX6_grow (tb_sub (a := 1) rfl hm) _ _ _ (fun _ => (tb_of (g := 0) hm rfl)) _ _ h1) (fun r4 σ5 h2 => ?_)
  exact frp_s h2
theorem wfX6_compare {m : Nat} {σ0 : S2} (hm : 1 ||| m = m) (τ : Nat) (σ : S2) (a1 : Int32) (a2 : Int32) (h : Fr gC m σ0 σ) : FrP gC m σ0 (fX6_compare τ σ a1 a2) := by
  unfold fX6_compare
  exact (wfX6_compare_0 hm _ _ _ _ h)
theorem wfX7_holdKeeper_0 {m : Nat} {σ0 : S2} (hm : 2097152 ||| m = m) (τ : Nat) (σ : S2) (x1 : Int32) (x2 : Int32) (h : Fr gC m σ0 σ) : FrP gC m σ0 (fX7_holdKeeper_0 τ σ x1 x2) := by
  unfold fX7_holdKeeper_0
  refine frp_ck (fun b1 => ?_)
  refine frp_w (Fr.wI h (tb_of (g := 21) hm rfl)) (fun σ1 h2 => ?_)
  refine frp_ck (fun b3 => ?_)
  refine frp_w (Fr.wI h2 (tb_of (g := 21) hm rfl)) (fun σ2 h4 => ?_)
  refine frp_ck (fun b5 => ?_)
  refine frp_w (Fr.wI h4 (tb_of (g := 21) hm rfl)) (fun σ3 h6 => ?_)
  exact frp_s h6
theorem wfX7_holdKeeper {m : Nat} {σ0 : S2} (hm : 2097152 ||| m = m) (τ : Nat) (σ : S2) (a1 : Int32) (a2 : Int32) (h : Fr gC m σ0 σ) : FrP gC m σ0 (fX7_holdKeeper τ σ a1 a2) := by
  unfold fX7_holdKeeper
  exact (wfX7_holdKeeper_0 hm _ _ _ _ h)
theorem wfJ7_fill_d0a16_6 {m : Nat} {σ0 : S2} (hm : 0 ||| m = m) (τ : Nat) (c0 : Nat) (n0 : Nat) (hc0 : ∀ i, m.testBit (gC c0 i) = true) : ∀ (n : Nat) (σ : S2) (x1 : Int64) (x3 : Int32) (x4 : Int32), Fr gC m σ0 σ → FrP gC m σ0 (fJ7_fill_d0a16_6 τ c0 n0 n σ x1 x3 x4) := by
  intro n
  induction n with
  | zero => intro σ x1 x3 x4 _; exact frp_n
  | succ n ih =>
    intro σ x1 x3 x4 h
    unfold fJ7_fill_d0a16_6
    refine frp_if ?_ ?_
    · skip
      exact frp_s h
    · skip
      refine frp_ck (fun b1 => ?_)
      refine frp_w (Fr.wL h (hc0 _)) (fun σ1 h2 => ?_)
      refine frp_nm (fun v2 => ?_)
      exact (ih _ _ _ _ h2)
theorem wfJ7_fill_d0a16_0 {m : Nat} {σ0 : S2} (hm : 0 ||| m = m) (τ : Nat) (c0 : Nat) (n0 : Nat) (hc0 : ∀ i, m.testBit (gC c0 i) = true) (σ : S2) (x1 : Int64) (h : Fr gC m σ0 σ) : FrP gC m σ0 (fJ7_fill_d0a16_0 τ c0 n0 σ x1) := by
  unfold fJ7_fill_d0a16_0
  refine frp_nm (fun v3 => ?_)
  exact (wfJ7_fill_d0a16_6 hm _ _ _ hc0 _ _ _ _ _ h)
theorem wfJ7_fill_d0a16 {m : Nat} {σ0 : S2} (hm : 0 ||| m = m) (τ : Nat) (c0 : Nat) (n0 : Nat) (hc0 : ∀ i, m.testBit (gC c0 i) = true) (σ : S2) (a1 : Int64) (h : Fr gC m σ0 σ) : FrP gC m σ0 (fJ7_fill_d0a16 τ c0 n0 σ a1) := by
  unfold fJ7_fill_d0a16
  exact (wfJ7_fill_d0a16_0 hm _ _ _ hc0 _ _ h)
theorem wfX7_holdRow_0 {m : Nat} {σ0 : S2} (hm : 6291456 ||| m = m) (τ : Nat) (σ : S2) (x1 : Int32) (x2 : Int32) (x3 : Int32) (h : Fr gC m σ0 σ) : FrP gC m σ0 (fX7_holdRow_0 τ σ x1 x2 x3) := by
  unfold fX7_holdRow_0
  refine frp_ck (fun b1 => ?_)
  refine frp_w (Fr.wI h (tb_of (g := 21) hm rfl)) (fun σ1 h2 => ?_)
  refine frp_ck (fun b3 => ?_)
  refine frp_w (Fr.wI h2 (tb_of (g := 21) hm rfl)) (fun σ2 h4 => ?_)
  refine frp_ck (fun b5 => ?_)
  refine frp_w (Fr.wI h4 (tb_of (g := 21) hm rfl)) (fun σ3 h6 => ?_)
  refine frp_ck (fun b7 => ?_)
  refine frp_bs (wfJ7_fill_d0a16 (tb_sub (a := 6291456) rfl hm) _ _ _ (fun _ => (tr_176 (tb_of (g := 22) hm rfl) (by omega))) _ _ h6) (fun r5 σ6 h8 => ?_)
  exact frp_s h8
theorem wfX7_holdRow {m : Nat} {σ0 : S2} (hm : 6291456 ||| m = m) (τ : Nat) (σ : S2) (a1 : Int32) (a2 : Int32) (a3 : Int32) (h : Fr gC m σ0 σ) : FrP gC m σ0 (fX7_holdRow τ σ a1 a2 a3) := by
  unfold fX7_holdRow
  exact (wfX7_holdRow_0 hm _ _ _ _ _ h)
theorem wfX8_takeMembers_36 {m : Nat} {σ0 : S2} (hm : 0 ||| m = m) (τ : Nat) (b0 : Nat) (k7 : S2 → Int32 → Int32 → Option (Unit × S2)) (hb0 : m.testBit (gT b0) = true) (hk7 : ∀ (y0 : S2) (y1 : Int32) (y2 : Int32), Fr gC m σ0 y0 → FrP gC m σ0 (k7 y0 y1 y2)) (σ : S2) (x1 : Int32) (x3 : Int32) (s0 : Int32) (s1 : Int32) (h : Fr gC m σ0 σ) : FrP gC m σ0 (fX8_takeMembers_36 τ b0 k7 σ x1 x3 s0 s1) := by
  unfold fX8_takeMembers_36
  refine frp_ck (fun b1 => ?_)
  refine frp_w (Fr.wI h (tt_1 hb0)) (fun σ1 h2 => ?_)
  refine frp_nm (fun v2 => ?_)
  exact (hk7 _ _ _ h2)
theorem wfX8_takeMembers_7 {m : Nat} {σ0 : S2} (hm : 0 ||| m = m) (τ : Nat) (b0 : Nat) (hb0 : m.testBit (gT b0) = true) : ∀ (n : Nat) (σ : S2) (x1 : Int32) (x3 : Int32), Fr gC m σ0 σ → FrP gC m σ0 (fX8_takeMembers_7 τ b0 n σ x1 x3) := by
  intro n
  induction n with
  | zero => intro σ x1 x3 _; exact frp_n
  | succ n ih =>
    intro σ x1 x3 h
    unfold fX8_takeMembers_7
    refine frp_if ?_ ?_
    · skip
      exact frp_s h
    · skip
      refine frp_if ?_ ?_
      · skip
        refine frp_bi (fun r3 => ?_)
        exact (wfX8_takeMembers_36 hm _ _ _ hb0 ih _ _ _ _ _ h)
      · skip
        exact (wfX8_takeMembers_36 hm _ _ _ hb0 ih _ _ _ _ _ h)
theorem wfX8_takeMembers_0 {m : Nat} {σ0 : S2} (hm : 0 ||| m = m) (τ : Nat) (b0 : Nat) (hb0 : m.testBit (gT b0) = true) (σ : S2) (x1 : Int32) (h : Fr gC m σ0 σ) : FrP gC m σ0 (fX8_takeMembers_0 τ b0 σ x1) := by
  unfold fX8_takeMembers_0
  refine frp_w (Fr.wI h (tt_0 hb0 (by decide))) (fun σ5 h1 => ?_)
  exact (wfX8_takeMembers_7 hm _ _ hb0 _ _ _ _ h1)
theorem wfX8_takeMembers {m : Nat} {σ0 : S2} (hm : 0 ||| m = m) (τ : Nat) (b0 : Nat) (hb0 : m.testBit (gT b0) = true) (σ : S2) (a1 : Int32) (h : Fr gC m σ0 σ) : FrP gC m σ0 (fX8_takeMembers τ b0 σ a1) := by
  unfold fX8_takeMembers
  exact (wfX8_takeMembers_0 hm _ _ hb0 _ _ h)
theorem wfX8_countOdds_51 {m : Nat} {σ0 : S2} (hm : 1024 ||| m = m) (τ : Nat) (b0 : Nat) (k18 : S2 → Int32 → Option (Unit × S2)) (hk18 : ∀ (y0 : S2) (y1 : Int32), Fr gC m σ0 y0 → FrP gC m σ0 (k18 y0 y1)) (σ : S2) (x1 : Int32) (h : Fr gC m σ0 σ) : FrP gC m σ0 (fX8_countOdds_51 τ b0 k18 σ x1) := by
  unfold fX8_countOdds_51
  refine frp_nm (fun v1 => ?_)
  exact (hk18 _ _ h)
theorem wfX8_countOdds_18 {m : Nat} {σ0 : S2} (hm : 1024 ||| m = m) (τ : Nat) (b0 : Nat) : ∀ (n : Nat) (σ : S2) (x1 : Int32), Fr gC m σ0 σ → FrP gC m σ0 (fX8_countOdds_18 τ b0 n σ x1) := by
  intro n
  induction n with
  | zero => intro σ x1 _; exact frp_n
  | succ n ih =>
    intro σ x1 h
    unfold fX8_countOdds_18
    refine frp_if ?_ ?_
    · skip
      refine frp_w (Fr.wI h (to_0 (tb_of (g := 10) hm rfl))) (fun σ2 h1 => ?_)
      exact frp_s h1
    · skip
      refine frp_bi (fun r3 => ?_)
      refine frp_if ?_ ?_
      · skip
        exact (wfX8_countOdds_51 hm _ _ _ ih _ _ h)
      · skip
        refine frp_if ?_ ?_
        · skip
          exact (wfX8_countOdds_51 hm _ _ _ ih _ _ h)
        · skip
          refine frp_ck (fun b2 => ?_)
          refine frp_nm (fun v5 => ?_)
          refine frp_ck (fun b3 => ?_)
          refine frp_w (Fr.wI h (to_2 (tb_of (g := 10) hm rfl))) (fun σ6 h4 => ?_)
          exact (wfX8_countOdds_51 hm _ _ _ ih _ _ h4)
theorem wfX8_countOdds_0 {m : Nat} {σ0 : S2} (hm : 1024 ||| m = m) (τ : Nat) (b0 : Nat) (σ : S2) (h : Fr gC m σ0 σ) : FrP gC m σ0 (fX8_countOdds_0 τ b0 σ) := by
  unfold fX8_countOdds_0
  refine frp_if ?_ ?_
  · skip
    refine frp_bs (wfJ7_fill_53178 (tb_sub (a := 1024) rfl hm) _ _ _ (fun _ => (to_2 (tb_of (g := 10) hm rfl))) _ _ h) (fun r7 σ8 h1 => ?_)
    exact (wfX8_countOdds_18 hm _ _ _ _ _ h1)
  · skip
    exact frp_s h
theorem wfX8_countOdds {m : Nat} {σ0 : S2} (hm : 1024 ||| m = m) (τ : Nat) (b0 : Nat) (σ : S2) (h : Fr gC m σ0 σ) : FrP gC m σ0 (fX8_countOdds τ b0 σ) := by
  unfold fX8_countOdds
  exact (wfX8_countOdds_0 hm _ _ _ h)
theorem wfX8_unevenness_54 {m : Nat} {σ0 : S2} (hm : 1024 ||| m = m) (τ : Nat) (b0 : Nat) (k12 : S2 → Int32 → Int32 → Int32 → Option (Int32 × S2)) (hk12 : ∀ (y0 : S2) (y1 : Int32) (y2 : Int32) (y3 : Int32), Fr gC m σ0 y0 → FrP gC m σ0 (k12 y0 y1 y2 y3)) (σ : S2) (x1 : Int32) (x2 : Int32) (x3 : Int32) (h : Fr gC m σ0 σ) : FrP gC m σ0 (fX8_unevenness_54 τ b0 k12 σ x1 x2 x3) := by
  unfold fX8_unevenness_54
  refine frp_nm (fun v1 => ?_)
  exact (hk12 _ _ _ _ h)
theorem wfX8_unevenness_12 {m : Nat} {σ0 : S2} (hm : 1024 ||| m = m) (τ : Nat) (b0 : Nat) : ∀ (n : Nat) (σ : S2) (x1 : Int32) (x2 : Int32) (x3 : Int32), Fr gC m σ0 σ → FrP gC m σ0 (fX8_unevenness_12 τ b0 n σ x1 x2 x3) := by
  intro n
  induction n with
  | zero => intro σ x1 x2 x3 _; exact frp_n
  | succ n ih =>
    intro σ x1 x2 x3 h
    unfold fX8_unevenness_12
    refine frp_if ?_ ?_
    · skip
      exact frp_s h
    · skip
      refine frp_if ?_ ?_
      · skip
        exact (wfX8_unevenness_54 hm _ _ _ ih _ _ _ _ h)
      · skip
        refine frp_ck (fun b1 => ?_)
        refine frp_nm (fun v2 => ?_)
        refine frp_nm (fun v3 => ?_)
        refine frp_ck (fun b2 => ?_)
        refine frp_nm (fun v4 => ?_)
        refine frp_nm (fun v5 => ?_)
        exact (wfX8_unevenness_54 hm _ _ _ ih _ _ _ _ h)
theorem wfX8_unevenness_0 {m : Nat} {σ0 : S2} (hm : 1024 ||| m = m) (τ : Nat) (b0 : Nat) (σ : S2) (h : Fr gC m σ0 σ) : FrP gC m σ0 (fX8_unevenness_0 τ b0 σ) := by
  unfold fX8_unevenness_0
  refine frp_bs (wfX8_countOdds hm _ _ _ h) (fun r6 σ7 h1 => ?_)
  exact (wfX8_unevenness_12 hm _ _ _ _ _ _ _ h1)
theorem wfX8_unevenness {m : Nat} {σ0 : S2} (hm : 1024 ||| m = m) (τ : Nat) (b0 : Nat) (σ : S2) (h : Fr gC m σ0 σ) : FrP gC m σ0 (fX8_unevenness τ b0 σ) := by
  unfold fX8_unevenness
  exact (wfX8_unevenness_0 hm _ _ _ h)
theorem wfX9_append_2 {m : Nat} {σ0 : S2} (hm : 2 ||| m = m) (τ : Nat) : ∀ (n : Nat) (σ : S2) (x1 : Int32) (x2 : Int32) (x3 : Int32), Fr gC m σ0 σ → FrP gC m σ0 (fX9_append_2 τ n σ x1 x2 x3) := by
  intro n
  induction n with
  | zero => intro σ x1 x2 x3 _; exact frp_n
  | succ n ih =>
    intro σ x1 x2 x3 h
    unfold fX9_append_2
    refine frp_if ?_ ?_
    · skip
      exact frp_s h
    · skip
      refine frp_if ?_ ?_
      · skip
        exact frp_s h
      · skip
        refine frp_ck (fun b1 => ?_)
        refine frp_w (Fr.wI h (tb_of (g := 1) hm rfl)) (fun σ1 h2 => ?_)
        refine frp_w (Fr.wI h2 (tb_of (g := 1) hm rfl)) (fun σ2 h3 => ?_)
        refine frp_nm (fun v3 => ?_)
        exact (ih _ _ _ _ h3)
theorem wfX9_append_0 {m : Nat} {σ0 : S2} (hm : 2 ||| m = m) (τ : Nat) (σ : S2) (x1 : Int32) (x2 : Int32) (h : Fr gC m σ0 σ) : FrP gC m σ0 (fX9_append_0 τ σ x1 x2) := by
  unfold fX9_append_0
  exact (wfX9_append_2 hm _ _ _ _ _ _ h)
theorem wfX9_append {m : Nat} {σ0 : S2} (hm : 2 ||| m = m) (τ : Nat) (σ : S2) (a1 : Int32) (a2 : Int32) (h : Fr gC m σ0 σ) : FrP gC m σ0 (fX9_append τ σ a1 a2) := by
  unfold fX9_append
  exact (wfX9_append_0 hm _ _ _ _ h)
theorem wfX10_greatestShare_79 {m : Nat} {σ0 : S2} (hm : 1 ||| m = m) (τ : Nat) (b1 : Nat) (k12 : S2 → Int32 → Int32 → Option (Int32 × S2)) (hk12 : ∀ (y0 : S2) (y1 : Int32) (y2 : Int32), Fr gC m σ0 y0 → FrP gC m σ0 (k12 y0 y1 y2)) (σ : S2) (x2 : Int32) (x3 : Int32) (h : Fr gC m σ0 σ) : FrP gC m σ0 (fX10_greatestShare_79 τ b1 k12 σ x2 x3) := by
  unfold fX10_greatestShare_79
  refine frp_nm (fun v1 => ?_)
  exact (hk12 _ _ _ h)
theorem wfX10_greatestShare_12 {m : Nat} {σ0 : S2} (hm : 1 ||| m = m) (τ : Nat) (b1 : Nat) : ∀ (n : Nat) (σ : S2) (x2 : Int32) (x3 : Int32), Fr gC m σ0 σ → FrP gC m σ0 (fX10_greatestShare_12 τ b1 n σ x2 x3) := by
  intro n
  induction n with
  | zero => intro σ x2 x3 _; exact frp_n
  | succ n ih =>
    intro σ x2 x3 h
    unfold fX10_greatestShare_12
    refine frp_if ?_ ?_
    · skip
      exact frp_s h
    · skip
      refine frp_bi (fun r2 => ?_)
      refine frp_bi (fun r4 => ?_)
      refine frp_if ?_ ?_
      · skip
        exact (wfX10_greatestShare_79 hm _ _ _ ih _ _ _ h)
      · skip
        refine frp_if ?_ ?_
        · skip
          refine frp_ck (fun b1 => ?_)
          refine frp_nm (fun v6 => ?_)
          refine frp_ck (fun b2 => ?_)
          refine frp_w (Fr.wI h (tb_of (g := 0) hm rfl)) (fun σ7 h3 => ?_)
          refine frp_ck (fun b4 => ?_)
          refine frp_nm (fun v8 => ?_)
          refine frp_nm (fun v9 => ?_)
          exact (wfX10_greatestShare_79 hm _ _ _ ih _ _ _ h3)
        · skip
          exact (wfX10_greatestShare_79 hm _ _ _ ih _ _ _ h)
theorem wfX10_greatestShare_0 {m : Nat} {σ0 : S2} (hm : 1 ||| m = m) (τ : Nat) (b1 : Nat) (σ : S2) (h : Fr gC m σ0 σ) : FrP gC m σ0 (fX10_greatestShare_0 τ b1 σ) := by
  unfold fX10_greatestShare_0
  refine frp_bs (wfJ7_fill_53178 (tb_sub (a := 1) rfl hm) _ _ _ (fun _ => (tb_of (g := 0) hm rfl)) _ _ h) (fun r10 σ11 h1 => ?_)
  exact (wfX10_greatestShare_12 hm _ _ _ _ _ _ h1)
theorem wfX10_greatestShare {m : Nat} {σ0 : S2} (hm : 1 ||| m = m) (τ : Nat) (b1 : Nat) (σ : S2) (h : Fr gC m σ0 σ) : FrP gC m σ0 (fX10_greatestShare τ b1 σ) := by
  unfold fX10_greatestShare
  exact (wfX10_greatestShare_0 hm _ _ _ h)
theorem wfX10_leastHarm_60 {m : Nat} {σ0 : S2} (hm : 9176065 ||| m = m) (τ : Nat) (b1 : Nat) (k10 : S2 → Int32 → Int32 → Option (Int32 × S2)) (hk10 : ∀ (y0 : S2) (y1 : Int32) (y2 : Int32), Fr gC m σ0 y0 → FrP gC m σ0 (k10 y0 y1 y2)) (σ : S2) (x3 : Int32) (x4 : Int32) (h : Fr gC m σ0 σ) : FrP gC m σ0 (fX10_leastHarm_60 τ b1 k10 σ x3 x4) := by
  unfold fX10_leastHarm_60
  refine frp_nm (fun v1 => ?_)
  exact (hk10 _ _ _ h)
theorem wfX10_leastHarm_51 {m : Nat} {σ0 : S2} (hm : 9176065 ||| m = m) (τ : Nat) (b1 : Nat) (k10 : S2 → Int32 → Int32 → Option (Int32 × S2)) (hk10 : ∀ (y0 : S2) (y1 : Int32) (y2 : Int32), Fr gC m σ0 y0 → FrP gC m σ0 (k10 y0 y1 y2)) (σ : S2) (x4 : Int32) (x5 : Int32) (h : Fr gC m σ0 σ) : FrP gC m σ0 (fX10_leastHarm_51 τ b1 k10 σ x4 x5) := by
  unfold fX10_leastHarm_51
  refine frp_w (Fr.wI h (tb_of (g := 19) hm rfl)) (fun σ2 h1 => ?_)
  exact (wfX10_leastHarm_60 hm _ _ _ hk10 _ _ _ h1)
theorem wfX10_leastHarm_10 {m : Nat} {σ0 : S2} (hm : 9176065 ||| m = m) (τ : Nat) (b1 : Nat) : ∀ (n : Nat) (σ : S2) (x3 : Int32) (x4 : Int32), Fr gC m σ0 σ → FrP gC m σ0 (fX10_leastHarm_10 τ b1 n σ x3 x4) := by
  intro n
  induction n with
  | zero => intro σ x3 x4 _; exact frp_n
  | succ n ih =>
    intro σ x3 x4 h
    unfold fX10_leastHarm_10
    refine frp_if ?_ ?_
    · skip
      refine frp_w (Fr.wI h (tb_of (g := 18) hm rfl)) (fun σ3 h1 => ?_)
      exact frp_s h1
    · skip
      refine frp_ck (fun b2 => ?_)
      refine frp_nm (fun v4 => ?_)
      refine frp_bs (wfX8_seatAll (tb_sub (a := 9176065) rfl hm) _ 0 (tb_of (g := 23) hm rfl) _ _ h) (fun r5 σ6 h3 => ?_)
      refine frp_bs (wfX10_greatestShare (tb_sub (a := 9176065) rfl hm) _ 0 _ h3) (fun r8 σ9 h4 => ?_)
      refine frp_if ?_ ?_
      · skip
        exact (wfX10_leastHarm_51 hm _ _ _ ih _ _ _ h4)
      · skip
        refine frp_if ?_ ?_
        · skip
          exact (wfX10_leastHarm_60 hm _ _ _ ih _ _ _ h4)
        · skip
          exact (wfX10_leastHarm_51 hm _ _ _ ih _ _ _ h4)
theorem wfX10_leastHarm_0 {m : Nat} {σ0 : S2} (hm : 9176065 ||| m = m) (τ : Nat) (b1 : Nat) (σ : S2) (h : Fr gC m σ0 σ) : FrP gC m σ0 (fX10_leastHarm_0 τ b1 σ) := by
  unfold fX10_leastHarm_0
  refine frp_bs (wfX8_takeAll (tb_sub (a := 9176065) rfl hm) _ 0 _ (tb_of (g := 23) hm rfl) _ h) (fun r11 σ12 h1 => ?_)
  exact (wfX10_leastHarm_10 hm _ _ _ _ _ _ h1)
theorem wfX10_leastHarm {m : Nat} {σ0 : S2} (hm : 9176065 ||| m = m) (τ : Nat) (b1 : Nat) (σ : S2) (h : Fr gC m σ0 σ) : FrP gC m σ0 (fX10_leastHarm τ b1 σ) := by
  unfold fX10_leastHarm
  exact (wfX10_leastHarm_0 hm _ _ _ h)
theorem wfX11_feed_0 {m : Nat} {σ0 : S2} (hm : 2 ||| m = m) (τ : Nat) (σ : S2) (x1 : Int32) (x2 : Int32) (h : Fr gC m σ0 σ) : FrP gC m σ0 (fX11_feed_0 τ σ x1 x2) := by
  unfold fX11_feed_0
  refine frp_if ?_ ?_
  · skip
    exact frp_s h
  · skip
    refine frp_if ?_ ?_
    · skip
      refine frp_if ?_ ?_
      · skip
        refine frp_bs (wfX9_append hm _ _ _ _ h) (fun r1 σ2 h1 => ?_)
        exact frp_s h1
      · skip
        exact frp_s h
    · skip
      exact frp_s h
theorem wfX11_feed {m : Nat} {σ0 : S2} (hm : 2 ||| m = m) (τ : Nat) (σ : S2) (a1 : Int32) (a2 : Int32) (h : Fr gC m σ0 σ) : FrP gC m σ0 (fX11_feed τ σ a1 a2) := by
  unfold fX11_feed
  exact (wfX11_feed_0 hm _ _ _ _ h)
theorem wfX11_name_91 {m : Nat} {σ0 : S2} (hm : 6 ||| m = m) (τ : Nat) (σ : S2) (x1 : Int32) (h : Fr gC m σ0 σ) : FrP gC m σ0 (fX11_name_91 τ σ x1) := by
  unfold fX11_name_91
  refine frp_w (Fr.wI h (tb_of (g := 1) hm rfl)) (fun σ1 h1 => ?_)
  exact frp_s h1
theorem wfX11_name_0 {m : Nat} {σ0 : S2} (hm : 6 ||| m = m) (τ : Nat) (σ : S2) (h : Fr gC m σ0 σ) : FrP gC m σ0 (fX11_name_0 τ σ) := by
  unfold fX11_name_0
  refine frp_if ?_ ?_
  · skip
    exact frp_s h
  · skip
    refine frp_if ?_ ?_
    · skip
      refine frp_bi (fun r2 => ?_)
      refine frp_if ?_ ?_
      · skip
        refine frp_if ?_ ?_
        · skip
          refine frp_bs (wfX4_add (tb_sub (a := 6) rfl hm) _ _ _ _ _ _ h) (fun r4 σ5 h1 => ?_)
          exact (wfX11_name_91 hm _ _ _ h1)
        · skip
          exact frp_s h
      · skip
        exact (wfX11_name_91 hm _ _ _ h)
    · skip
      exact frp_s h
theorem wfX11_name {m : Nat} {σ0 : S2} (hm : 6 ||| m = m) (τ : Nat) (σ : S2) (h : Fr gC m σ0 σ) : FrP gC m σ0 (fX11_name τ σ) := by
  unfold fX11_name
  exact (wfX11_name_0 hm _ _ h)
theorem wfX11_keeper_0 {m : Nat} {σ0 : S2} (hm : 248 ||| m = m) (τ : Nat) (σ : S2) (x1 : Int32) (x2 : Int32) (h : Fr gC m σ0 σ) : FrP gC m σ0 (fX11_keeper_0 τ σ x1 x2) := by
  unfold fX11_keeper_0
  refine frp_if ?_ ?_
  · skip
    exact frp_s h
  · skip
    refine frp_if ?_ ?_
    · skip
      exact frp_s h
    · skip
      refine frp_bi (fun r1 => ?_)
      refine frp_if ?_ ?_
      · skip
        exact frp_s h
      · skip
        refine frp_if ?_ ?_
        · skip
          refine frp_bs (wfX2_add hm _ _ _ _ h) (fun r3 σ4 h1 => ?_)
          exact frp_s h1
        · skip
          exact frp_s h
theorem wfX11_keeper {m : Nat} {σ0 : S2} (hm : 248 ||| m = m) (τ : Nat) (σ : S2) (a1 : Int32) (a2 : Int32) (h : Fr gC m σ0 σ) : FrP gC m σ0 (fX11_keeper τ σ a1 a2) := by
  unfold fX11_keeper
  exact (wfX11_keeper_0 hm _ _ _ _ h)
theorem wfX11_become_0 {m : Nat} {σ0 : S2} (hm : 6160 ||| m = m) (τ : Nat) (σ : S2) (x1 : Int32) (x2 : Int32) (h : Fr gC m σ0 σ) : FrP gC m σ0 (fX11_become_0 τ σ x1 x2) := by
  unfold fX11_become_0
  refine frp_bi (fun r1 => ?_)
  refine frp_if ?_ ?_
  · skip
    exact frp_s h
  · skip
    refine frp_bi (fun r3 => ?_)
    refine frp_if ?_ ?_
    · skip
      exact frp_s h
    · skip
      refine frp_ck (fun b1 => ?_)
      refine frp_nm (fun v5 => ?_)
      refine frp_ck (fun b2 => ?_)
      refine frp_w (Fr.wI h (tb_of (g := 4) hm rfl)) (fun σ6 h3 => ?_)
      refine frp_if ?_ ?_
      · skip
        refine frp_if ?_ ?_
        · skip
          exact frp_s h3
        · skip
          refine frp_bs (wfX6_handBack (tb_sub (a := 6160) rfl hm) _ _ _ h3) (fun r7 σ8 h4 => ?_)
          exact frp_s h4
      · skip
        exact frp_s h3
theorem wfX11_become {m : Nat} {σ0 : S2} (hm : 6160 ||| m = m) (τ : Nat) (σ : S2) (a1 : Int32) (a2 : Int32) (h : Fr gC m σ0 σ) : FrP gC m σ0 (fX11_become τ σ a1 a2) := by
  unfold fX11_become
  exact (wfX11_become_0 hm _ _ _ _ h)
theorem wfX11_strength_0 {m : Nat} {σ0 : S2} (hm : 64 ||| m = m) (τ : Nat) (σ : S2) (x1 : Int32) (x2 : Int32) (h : Fr gC m σ0 σ) : FrP gC m σ0 (fX11_strength_0 τ σ x1 x2) := by
  unfold fX11_strength_0
  refine frp_bi (fun r1 => ?_)
  refine frp_if ?_ ?_
  · skip
    exact frp_s h
  · skip
    refine frp_bi (fun r3 => ?_)
    refine frp_if ?_ ?_
    · skip
      exact frp_s h
    · skip
      refine frp_ck (fun b1 => ?_)
      refine frp_nm (fun v5 => ?_)
      refine frp_ck (fun b2 => ?_)
      refine frp_w (Fr.wI h (tb_of (g := 6) hm rfl)) (fun σ6 h3 => ?_)
      exact frp_s h3
theorem wfX11_strength {m : Nat} {σ0 : S2} (hm : 64 ||| m = m) (τ : Nat) (σ : S2) (a1 : Int32) (a2 : Int32) (h : Fr gC m σ0 σ) : FrP gC m σ0 (fX11_strength τ σ a1 a2) := by
  unfold fX11_strength
  exact (wfX11_strength_0 hm _ _ _ _ h)
theorem wfX11_ofTable_0 {m : Nat} {σ0 : S2} (hm : 1024 ||| m = m) (τ : Nat) (σ : S2) (x1 : Int32) (x2 : Int32) (h : Fr gC m σ0 σ) : FrP gC m σ0 (fX11_ofTable_0 τ σ x1 x2) := by
  unfold fX11_ofTable_0
  refine frp_bt ?_ (fun b2 => ?_)
  · skip
    exact frp_s h
  · skip
    refine frp_if ?_ ?_
    · skip
      exact frp_s h
    · skip
      refine frp_if ?_ ?_
      · skip
        exact frp_s h
      · skip
        refine frp_if ?_ ?_
        · skip
          exact frp_s h
        · skip
          refine frp_if ?_ ?_
          · skip
            exact frp_s h
          · skip
            refine frp_if ?_ ?_
            · skip
              exact frp_s h
            · skip
              refine frp_if ?_ ?_
              · skip
                refine frp_bs (wfX8_unevenness hm _ _ _ h) (fun r9 σ10 h1 => ?_)
                exact frp_s h1
              · skip
                exact frp_s h
theorem wfX11_ofTable {m : Nat} {σ0 : S2} (hm : 1024 ||| m = m) (τ : Nat) (σ : S2) (a1 : Int32) (a2 : Int32) (h : Fr gC m σ0 σ) : FrP gC m σ0 (fX11_ofTable τ σ a1 a2) := by
  unfold fX11_ofTable
  exact (wfX11_ofTable_0 hm _ _ _ _ h)
theorem wfX11_picked_0 {m : Nat} {σ0 : S2} (hm : 1 ||| m = m) (τ : Nat) (σ : S2) (x1 : Int32) (x2 : Int32) (x3 : Int32) (h : Fr gC m σ0 σ) : FrP gC m σ0 (fX11_picked_0 τ σ x1 x2 x3) := by
  unfold fX11_picked_0
  refine frp_bt ?_ (fun b2 => ?_)
  · skip
    exact frp_s h
  · skip
    refine frp_bi (fun r3 => ?_)
    refine frp_if ?_ ?_
    · skip
      exact frp_s h
    · skip
      refine frp_if ?_ ?_
      · skip
        refine frp_bs (wfX1_pick hm _ _ _ _ h) (fun r5 σ6 h1 => ?_)
        refine frp_if ?_ ?_
        · skip
          exact frp_s h1
        · skip
          refine frp_ck (fun b2 => ?_)
          refine frp_nm (fun v8 => ?_)
          exact frp_s h1
      · skip
        exact frp_s h
theorem wfX11_picked {m : Nat} {σ0 : S2} (hm : 1 ||| m = m) (τ : Nat) (σ : S2) (a1 : Int32) (a2 : Int32) (a3 : Int32) (h : Fr gC m σ0 σ) : FrP gC m σ0 (fX11_picked τ σ a1 a2 a3) := by
  unfold fX11_picked
  exact (wfX11_picked_0 hm _ _ _ _ _ h)
theorem wfX11_keeperOf_0 {m : Nat} {σ0 : S2} (hm : 1 ||| m = m) (τ : Nat) (σ : S2) (x1 : Int32) (x2 : Int32) (x3 : Int32) (h : Fr gC m σ0 σ) : FrP gC m σ0 (fX11_keeperOf_0 τ σ x1 x2 x3) := by
  unfold fX11_keeperOf_0
  refine frp_bt ?_ (fun b2 => ?_)
  · skip
    exact frp_s h
  · skip
    refine frp_bi (fun r3 => ?_)
    refine frp_if ?_ ?_
    · skip
      exact frp_s h
    · skip
      refine frp_if ?_ ?_
      · skip
        refine frp_bi (fun r5 => ?_)
        refine frp_bs (wfX1_choose hm _ _ _ _ h) (fun r7 σ8 h1 => ?_)
        refine frp_if ?_ ?_
        · skip
          exact frp_s h1
        · skip
          refine frp_if ?_ ?_
          · skip
            exact frp_s h1
          · skip
            refine frp_ck (fun b2 => ?_)
            refine frp_nm (fun v10 => ?_)
            exact frp_s h1
      · skip
        exact frp_s h
theorem wfX11_keeperOf {m : Nat} {σ0 : S2} (hm : 1 ||| m = m) (τ : Nat) (σ : S2) (a1 : Int32) (a2 : Int32) (a3 : Int32) (h : Fr gC m σ0 σ) : FrP gC m σ0 (fX11_keeperOf τ σ a1 a2 a3) := by
  unfold fX11_keeperOf
  exact (wfX11_keeperOf_0 hm _ _ _ _ _ h)
theorem wfX11_tooFew_70 {m : Nat} {σ0 : S2} (hm : 1 ||| m = m) (τ : Nat) (k17 : S2 → Nat → Int32 → Int32 → Option (Int32 × S2)) (hk17 : ∀ (y0 : S2) (y1 : Nat) (y2 : Int32) (y3 : Int32), Fr gC m σ0 y0 → FrP gC m σ0 (k17 y0 y1 y2 y3)) (σ : S2) (x2 : Nat) (x3 : Int32) (x4 : Int32) (h : Fr gC m σ0 σ) : FrP gC m σ0 (fX11_tooFew_70 τ k17 σ x2 x3 x4) := by
  unfold fX11_tooFew_70
  refine frp_nm (fun v1 => ?_)
  exact (hk17 _ _ _ _ h)
theorem wfX11_tooFew_17 {m : Nat} {σ0 : S2} (hm : 1 ||| m = m) (τ : Nat) : ∀ (n : Nat) (σ : S2) (x2 : Nat) (x3 : Int32) (x4 : Int32), Fr gC m σ0 σ → FrP gC m σ0 (fX11_tooFew_17 τ n σ x2 x3 x4) := by
  intro n
  induction n with
  | zero => intro σ x2 x3 x4 _; exact frp_n
  | succ n ih =>
    intro σ x2 x3 x4 h
    unfold fX11_tooFew_17
    refine frp_if ?_ ?_
    · skip
      exact frp_s h
    · skip
      refine frp_bi (fun r2 => ?_)
      refine frp_bs (wfX1_choose hm _ _ _ _ h) (fun r4 σ5 h1 => ?_)
      refine frp_bi (fun r7 => ?_)
      refine frp_if ?_ ?_
      · skip
        exact (wfX11_tooFew_70 hm _ _ ih _ _ _ _ h1)
      · skip
        refine frp_nm (fun v9 => ?_)
        exact (wfX11_tooFew_70 hm _ _ ih _ _ _ _ h1)
theorem wfX11_tooFew_0 {m : Nat} {σ0 : S2} (hm : 1 ||| m = m) (τ : Nat) (σ : S2) (x1 : Int32) (h : Fr gC m σ0 σ) : FrP gC m σ0 (fX11_tooFew_0 τ σ x1) := by
  unfold fX11_tooFew_0
  refine frp_bt ?_ (fun b11 => ?_)
  · skip
    exact frp_s h
  · skip
    exact (wfX11_tooFew_17 hm _ _ _ _ _ _ h)
theorem wfX11_tooFew {m : Nat} {σ0 : S2} (hm : 1 ||| m = m) (τ : Nat) (σ : S2) (a1 : Int32) (h : Fr gC m σ0 σ) : FrP gC m σ0 (fX11_tooFew τ σ a1) := by
  unfold fX11_tooFew
  exact (wfX11_tooFew_0 hm _ _ _ h)
theorem wfX11_share_96 {m : Nat} {σ0 : S2} (hm : 1024 ||| m = m) (τ : Nat) (k58 : S2 → Int32 → Nat → Int32 → Int32 → Option (Int32 × S2)) (hk58 : ∀ (y0 : S2) (y1 : Int32) (y2 : Nat) (y3 : Int32) (y4 : Int32), Fr gC m σ0 y0 → FrP gC m σ0 (k58 y0 y1 y2 y3 y4)) (σ : S2) (x2 : Int32) (x4 : Nat) (x5 : Int32) (x6 : Int32) (h : Fr gC m σ0 σ) : FrP gC m σ0 (fX11_share_96 τ k58 σ x2 x4 x5 x6) := by
  unfold fX11_share_96
  refine frp_nm (fun v1 => ?_)
  exact (hk58 _ _ _ _ _ h)
theorem wfX11_share_58 {m : Nat} {σ0 : S2} (hm : 1024 ||| m = m) (τ : Nat) : ∀ (n : Nat) (σ : S2) (x2 : Int32) (x4 : Nat) (x5 : Int32) (x6 : Int32), Fr gC m σ0 σ → FrP gC m σ0 (fX11_share_58 τ n σ x2 x4 x5 x6) := by
  intro n
  induction n with
  | zero => intro σ x2 x4 x5 x6 _; exact frp_n
  | succ n ih =>
    intro σ x2 x4 x5 x6 h
    unfold fX11_share_58
    refine frp_if ?_ ?_
    · skip
      exact frp_s h
    · skip
      refine frp_bi (fun r2 => ?_)
      refine frp_bi (fun r4 => ?_)
      refine frp_if ?_ ?_
      · skip
        refine frp_nm (fun v6 => ?_)
        exact (wfX11_share_96 hm _ _ ih _ _ _ _ _ h)
      · skip
        exact (wfX11_share_96 hm _ _ ih _ _ _ _ _ h)
theorem wfX11_share_0 {m : Nat} {σ0 : S2} (hm : 1024 ||| m = m) (τ : Nat) (σ : S2) (x1 : Int32) (x2 : Int32) (x3 : Int32) (h : Fr gC m σ0 σ) : FrP gC m σ0 (fX11_share_0 τ σ x1 x2 x3) := by
  unfold fX11_share_0
  refine frp_bt ?_ (fun b8 => ?_)
  · skip
    exact frp_s h
  · skip
    refine frp_bi (fun r9 => ?_)
    refine frp_if ?_ ?_
    · skip
      exact frp_s h
    · skip
      refine frp_if ?_ ?_
      · skip
        exact frp_s h
      · skip
        refine frp_if ?_ ?_
        · skip
          refine frp_if ?_ ?_
          · skip
            refine frp_bs (wfX8_countOdds hm _ _ _ h) (fun r11 σ12 h1 => ?_)
            refine frp_ck (fun b2 => ?_)
            refine frp_nm (fun v14 => ?_)
            exact frp_s h1
          · skip
            exact (wfX11_share_58 hm _ _ _ _ _ _ _ h)
        · skip
          exact frp_s h
theorem wfX11_share {m : Nat} {σ0 : S2} (hm : 1024 ||| m = m) (τ : Nat) (σ : S2) (a1 : Int32) (a2 : Int32) (a3 : Int32) (h : Fr gC m σ0 σ) : FrP gC m σ0 (fX11_share τ σ a1 a2 a3) := by
  unfold fX11_share
  exact (wfX11_share_0 hm _ _ _ _ _ h)
theorem wfX11_moves_157 {m : Nat} {σ0 : S2} (hm : 1 ||| m = m) (τ : Nat) (k50 : S2 → Int32 → Nat → Nat → Int32 → Int32 → Int32 → Option (Int32 × S2)) (hk50 : ∀ (y0 : S2) (y1 : Int32) (y2 : Nat) (y3 : Nat) (y4 : Int32) (y5 : Int32) (y6 : Int32), Fr gC m σ0 y0 → FrP gC m σ0 (k50 y0 y1 y2 y3 y4 y5 y6)) (σ : S2) (x3 : Int32) (x4 : Nat) (x5 : Nat) (x6 : Int32) (x7 : Int32) (x8 : Int32) (x10 : Int32) (h : Fr gC m σ0 σ) : FrP gC m σ0 (fX11_moves_157 τ k50 σ x3 x4 x5 x6 x7 x8 x10) := by
  unfold fX11_moves_157
  refine frp_bi (fun r1 => ?_)
  refine frp_nm (fun v3 => ?_)
  refine frp_nm (fun v4 => ?_)
  exact (hk50 _ _ _ _ _ _ _ h)
theorem wfX11_moves_155 {m : Nat} {σ0 : S2} (hm : 1 ||| m = m) (τ : Nat) (k50 : S2 → Int32 → Nat → Nat → Int32 → Int32 → Int32 → Option (Int32 × S2)) (hk50 : ∀ (y0 : S2) (y1 : Int32) (y2 : Nat) (y3 : Nat) (y4 : Int32) (y5 : Int32) (y6 : Int32), Fr gC m σ0 y0 → FrP gC m σ0 (k50 y0 y1 y2 y3 y4 y5 y6)) (σ : S2) (x3 : Int32) (x4 : Nat) (x5 : Nat) (x6 : Int32) (x7 : Int32) (x8 : Int32) (s0 : Int32) (h : Fr gC m σ0 σ) : FrP gC m σ0 (fX11_moves_155 τ k50 σ x3 x4 x5 x6 x7 x8 s0) := by
  unfold fX11_moves_155
  exact (wfX11_moves_157 hm _ _ hk50 _ _ _ _ _ _ _ _ h)
theorem wfX11_moves_50 {m : Nat} {σ0 : S2} (hm : 1 ||| m = m) (τ : Nat) : ∀ (n : Nat) (σ : S2) (x3 : Int32) (x4 : Nat) (x5 : Nat) (x6 : Int32) (x7 : Int32) (x8 : Int32), Fr gC m σ0 σ → FrP gC m σ0 (fX11_moves_50 τ n σ x3 x4 x5 x6 x7 x8) := by
  intro n
  induction n with
  | zero => intro σ x3 x4 x5 x6 x7 x8 _; exact frp_n
  | succ n ih =>
    intro σ x3 x4 x5 x6 x7 x8 h
    unfold fX11_moves_50
    refine frp_if ?_ ?_
    · skip
      exact frp_s h
    · skip
      refine frp_bi (fun r5 => ?_)
      refine frp_bs (wfX1_choose hm _ _ _ _ h) (fun r7 σ8 h1 => ?_)
      refine frp_nm (fun v10 => ?_)
      refine frp_bi (fun r11 => ?_)
      refine frp_bs (wfX1_choose hm _ _ _ _ h1) (fun r13 σ14 h2 => ?_)
      refine frp_nm (fun v16 => ?_)
      refine frp_if ?_ ?_
      · skip
        refine frp_if ?_ ?_
        · skip
          exact (wfX11_moves_155 hm _ _ ih _ _ _ _ _ _ _ _ h2)
        · skip
          exact (wfX11_moves_155 hm _ _ ih _ _ _ _ _ _ _ _ h2)
      · skip
        exact (wfX11_moves_157 hm _ _ ih _ _ _ _ _ _ _ _ h2)
theorem wfX11_moves_0 {m : Nat} {σ0 : S2} (hm : 1 ||| m = m) (τ : Nat) (σ : S2) (x1 : Int32) (x2 : Int32) (x3 : Int32) (h : Fr gC m σ0 σ) : FrP gC m σ0 (fX11_moves_0 τ σ x1 x2 x3) := by
  unfold fX11_moves_0
  refine frp_bt ?_ (fun b18 => ?_)
  · skip
    refine frp_bt ?_ (fun b20 => ?_)
    · skip
      exact frp_s h
    · skip
      exact frp_s h
  · skip
    refine frp_bt ?_ (fun b22 => ?_)
    · skip
      exact frp_s h
    · skip
      refine frp_if ?_ ?_
      · skip
        exact frp_s h
      · skip
        refine frp_if ?_ ?_
        · skip
          refine frp_bi (fun r23 => ?_)
          exact (wfX11_moves_50 hm _ _ _ _ _ _ _ _ _ h)
        · skip
          exact frp_s h
theorem wfX11_moves {m : Nat} {σ0 : S2} (hm : 1 ||| m = m) (τ : Nat) (σ : S2) (a1 : Int32) (a2 : Int32) (a3 : Int32) (h : Fr gC m σ0 σ) : FrP gC m σ0 (fX11_moves τ σ a1 a2 a3) := by
  unfold fX11_moves
  exact (wfX11_moves_0 hm _ _ _ _ _ h)
theorem wfX11_knows_0 {m : Nat} {σ0 : S2} (hm : 128 ||| m = m) (τ : Nat) (σ : S2) (x1 : Int32) (x2 : Int32) (h : Fr gC m σ0 σ) : FrP gC m σ0 (fX11_knows_0 τ σ x1 x2) := by
  unfold fX11_knows_0
  refine frp_bi (fun r1 => ?_)
  refine frp_if ?_ ?_
  · skip
    exact frp_s h
  · skip
    refine frp_if ?_ ?_
    · skip
      exact frp_s h
    · skip
      refine frp_if ?_ ?_
      · skip
        refine frp_ck (fun b1 => ?_)
        refine frp_nm (fun v3 => ?_)
        refine frp_ck (fun b2 => ?_)
        refine frp_w (Fr.wI h (tb_of (g := 7) hm rfl)) (fun σ4 h3 => ?_)
        exact frp_s h3
      · skip
        exact frp_s h
theorem wfX11_knows {m : Nat} {σ0 : S2} (hm : 128 ||| m = m) (τ : Nat) (σ : S2) (a1 : Int32) (a2 : Int32) (h : Fr gC m σ0 σ) : FrP gC m σ0 (fX11_knows τ σ a1 a2) := by
  unfold fX11_knows
  exact (wfX11_knows_0 hm _ _ _ _ h)
theorem wfX11_write_0 {m : Nat} {σ0 : S2} (hm : 55297 ||| m = m) (τ : Nat) (σ : S2) (x1 : Int32) (x2 : Int32) (h : Fr gC m σ0 σ) : FrP gC m σ0 (fX11_write_0 τ σ x1 x2) := by
  unfold fX11_write_0
  refine frp_bi (fun r1 => ?_)
  refine frp_if ?_ ?_
  · skip
    exact frp_s h
  · skip
    refine frp_bi (fun r3 => ?_)
    refine frp_if ?_ ?_
    · skip
      exact frp_s h
    · skip
      refine frp_ck (fun b1 => ?_)
      refine frp_nm (fun v5 => ?_)
      refine frp_bt ?_ (fun b7 => ?_)
      · skip
        exact frp_s h
      · skip
        refine frp_bi (fun r8 => ?_)
        refine frp_if ?_ ?_
        · skip
          exact frp_s h
        · skip
          refine frp_bs (wfX6_spread hm _ _ _ _ h) (fun r10 σ11 h2 => ?_)
          exact frp_s h2
theorem wfX11_write {m : Nat} {σ0 : S2} (hm : 55297 ||| m = m) (τ : Nat) (σ : S2) (a1 : Int32) (a2 : Int32) (h : Fr gC m σ0 σ) : FrP gC m σ0 (fX11_write τ σ a1 a2) := by
  unfold fX11_write
  exact (wfX11_write_0 hm _ _ _ _ h)
theorem wfX11_read_0 {m : Nat} {σ0 : S2} (hm : 1 ||| m = m) (τ : Nat) (σ : S2) (x1 : Int32) (x2 : Int32) (h : Fr gC m σ0 σ) : FrP gC m σ0 (fX11_read_0 τ σ x1 x2) := by
  unfold fX11_read_0
  refine frp_bi (fun r1 => ?_)
  refine frp_if ?_ ?_
  · skip
    exact frp_s h
  · skip
    refine frp_bi (fun r3 => ?_)
    refine frp_if ?_ ?_
    · skip
      exact frp_s h
    · skip
      refine frp_ck (fun b1 => ?_)
      refine frp_nm (fun v5 => ?_)
      refine frp_bt ?_ (fun b7 => ?_)
      · skip
        exact frp_s h
      · skip
        refine frp_bi (fun r8 => ?_)
        refine frp_if ?_ ?_
        · skip
          exact frp_s h
        · skip
          refine frp_bs (wfX6_greatestFor hm _ _ _ _ h) (fun r10 σ11 h2 => ?_)
          exact frp_s h2
theorem wfX11_read {m : Nat} {σ0 : S2} (hm : 1 ||| m = m) (τ : Nat) (σ : S2) (a1 : Int32) (a2 : Int32) (h : Fr gC m σ0 σ) : FrP gC m σ0 (fX11_read τ σ a1 a2) := by
  unfold fX11_read
  exact (wfX11_read_0 hm _ _ _ _ h)
theorem wfX11_fall_58 {m : Nat} {σ0 : S2} (hm : 6400 ||| m = m) (τ : Nat) (σ : S2) (x1 : Int32) (x2 : Int32) (x3 : Int32) (s0 : Int32) (s1 : Int32) (h : Fr gC m σ0 σ) : FrP gC m σ0 (fX11_fall_58 τ σ x1 x2 x3 s0 s1) := by
  unfold fX11_fall_58
  refine frp_ck (fun b1 => ?_)
  refine frp_w (Fr.wI h (tb_of (g := 8) hm rfl)) (fun σ1 h2 => ?_)
  refine frp_if ?_ ?_
  · skip
    refine frp_bs (wfX6_empty (tb_sub (a := 6400) rfl hm) _ _ _ h2) (fun r2 σ3 h3 => ?_)
    exact frp_s h3
  · skip
    exact frp_s h2
theorem wfX11_fall_39 {m : Nat} {σ0 : S2} (hm : 6400 ||| m = m) (τ : Nat) (σ : S2) (x1 : Int32) (x2 : Int32) (s0 : Int32) (h : Fr gC m σ0 σ) : FrP gC m σ0 (fX11_fall_39 τ σ x1 x2 s0) := by
  unfold fX11_fall_39
  refine frp_if ?_ ?_
  · skip
    exact (wfX11_fall_58 hm _ _ _ _ _ _ _ h)
  · skip
    exact (wfX11_fall_58 hm _ _ _ _ _ _ _ h)
theorem wfX11_fall_0 {m : Nat} {σ0 : S2} (hm : 6400 ||| m = m) (τ : Nat) (σ : S2) (x1 : Int32) (x2 : Int32) (h : Fr gC m σ0 σ) : FrP gC m σ0 (fX11_fall_0 τ σ x1 x2) := by
  unfold fX11_fall_0
  refine frp_bi (fun r5 => ?_)
  refine frp_if ?_ ?_
  · skip
    exact frp_s h
  · skip
    refine frp_if ?_ ?_
    · skip
      exact frp_s h
    · skip
      refine frp_if ?_ ?_
      · skip
        refine frp_ck (fun b1 => ?_)
        refine frp_nm (fun v7 => ?_)
        refine frp_if ?_ ?_
        · skip
          exact (wfX11_fall_39 hm _ _ _ _ _ h)
        · skip
          exact (wfX11_fall_39 hm _ _ _ _ _ h)
      · skip
        exact frp_s h
theorem wfX11_fall {m : Nat} {σ0 : S2} (hm : 6400 ||| m = m) (τ : Nat) (σ : S2) (a1 : Int32) (a2 : Int32) (h : Fr gC m σ0 σ) : FrP gC m σ0 (fX11_fall τ σ a1 a2) := by
  unfold fX11_fall
  exact (wfX11_fall_0 hm _ _ _ _ h)
theorem wfX11_half_0 {m : Nat} {σ0 : S2} (hm : 10240 ||| m = m) (τ : Nat) (σ : S2) (x1 : Int32) (x2 : Int32) (x3 : Int32) (h : Fr gC m σ0 σ) : FrP gC m σ0 (fX11_half_0 τ σ x1 x2 x3) := by
  unfold fX11_half_0
  refine frp_bi (fun r1 => ?_)
  refine frp_if ?_ ?_
  · skip
    exact frp_s h
  · skip
    refine frp_bi (fun r3 => ?_)
    refine frp_if ?_ ?_
    · skip
      exact frp_s h
    · skip
      refine frp_bi (fun r5 => ?_)
      refine frp_if ?_ ?_
      · skip
        exact frp_s h
      · skip
        refine frp_if ?_ ?_
        · skip
          exact frp_s h
        · skip
          refine frp_ck (fun b1 => ?_)
          refine frp_ck (fun b2 => ?_)
          refine frp_nm (fun v8 => ?_)
          refine frp_if ?_ ?_
          · skip
            exact frp_s h
          · skip
            refine frp_bs (wfX6_movePiece hm _ _ _ _ _ h) (fun r9 σ10 h3 => ?_)
            exact frp_s h3
theorem wfX11_half {m : Nat} {σ0 : S2} (hm : 10240 ||| m = m) (τ : Nat) (σ : S2) (a1 : Int32) (a2 : Int32) (a3 : Int32) (h : Fr gC m σ0 σ) : FrP gC m σ0 (fX11_half τ σ a1 a2 a3) := by
  unfold fX11_half
  exact (wfX11_half_0 hm _ _ _ _ _ h)
theorem wfX11_mend_0 {m : Nat} {σ0 : S2} (hm : 2049 ||| m = m) (τ : Nat) (σ : S2) (x1 : Int32) (h : Fr gC m σ0 σ) : FrP gC m σ0 (fX11_mend_0 τ σ x1) := by
  unfold fX11_mend_0
  refine frp_bt ?_ (fun b2 => ?_)
  · skip
    exact frp_s h
  · skip
    refine frp_bs (wfX6_mendAll hm _ _ _ h) (fun r3 σ4 h1 => ?_)
    exact frp_s h1
theorem wfX11_mend {m : Nat} {σ0 : S2} (hm : 2049 ||| m = m) (τ : Nat) (σ : S2) (a1 : Int32) (h : Fr gC m σ0 σ) : FrP gC m σ0 (fX11_mend τ σ a1) := by
  unfold fX11_mend
  exact (wfX11_mend_0 hm _ _ _ h)
theorem wfX11_trees_0 {m : Nat} {σ0 : S2} (hm : 1 ||| m = m) (τ : Nat) (σ : S2) (x1 : Int32) (x2 : Int32) (x3 : Int32) (h : Fr gC m σ0 σ) : FrP gC m σ0 (fX11_trees_0 τ σ x1 x2 x3) := by
  unfold fX11_trees_0
  refine frp_bi (fun r1 => ?_)
  refine frp_if ?_ ?_
  · skip
    exact frp_s h
  · skip
    refine frp_bi (fun r3 => ?_)
    refine frp_if ?_ ?_
    · skip
      exact frp_s h
    · skip
      refine frp_if ?_ ?_
      · skip
        exact frp_s h
      · skip
        refine frp_if ?_ ?_
        · skip
          exact frp_s h
        · skip
          refine frp_if ?_ ?_
          · skip
            refine frp_bs (wfX6_compare hm _ _ _ _ h) (fun r5 σ6 h1 => ?_)
            refine frp_if ?_ ?_
            · skip
              refine frp_bi (fun r10 => ?_)
              exact frp_s h1
            · skip
              refine frp_bi (fun r8 => ?_)
              exact frp_s h1
          · skip
            exact frp_s h
theorem wfX11_trees {m : Nat} {σ0 : S2} (hm : 1 ||| m = m) (τ : Nat) (σ : S2) (a1 : Int32) (a2 : Int32) (a3 : Int32) (h : Fr gC m σ0 σ) : FrP gC m σ0 (fX11_trees τ σ a1 a2 a3) := by
  unfold fX11_trees
  exact (wfX11_trees_0 hm _ _ _ _ _ h)
theorem wfX11_comes_0 {m : Nat} {σ0 : S2} (hm : 65536 ||| m = m) (τ : Nat) (σ : S2) (x1 : Int32) (h : Fr gC m σ0 σ) : FrP gC m σ0 (fX11_comes_0 τ σ x1) := by
  unfold fX11_comes_0
  refine frp_bi (fun r1 => ?_)
  refine frp_if ?_ ?_
  · skip
    exact frp_s h
  · skip
    refine frp_bi (fun r3 => ?_)
    refine frp_if ?_ ?_
    · skip
      refine frp_if ?_ ?_
      · skip
        refine frp_ck (fun b1 => ?_)
        refine frp_w (Fr.wI h (tb_of (g := 16) hm rfl)) (fun σ5 h2 => ?_)
        refine frp_w (Fr.wI h2 (tb_of (g := 16) hm rfl)) (fun σ6 h3 => ?_)
        exact frp_s h3
      · skip
        exact frp_s h
    · skip
      exact frp_s h
theorem wfX11_comes {m : Nat} {σ0 : S2} (hm : 65536 ||| m = m) (τ : Nat) (σ : S2) (a1 : Int32) (h : Fr gC m σ0 σ) : FrP gC m σ0 (fX11_comes τ σ a1) := by
  unfold fX11_comes
  exact (wfX11_comes_0 hm _ _ _ h)
theorem wfX11_order_0 {m : Nat} {σ0 : S2} (hm : 8586241 ||| m = m) (τ : Nat) (σ : S2) (x1 : Int32) (h : Fr gC m σ0 σ) : FrP gC m σ0 (fX11_order_0 τ σ x1) := by
  unfold fX11_order_0
  refine frp_bt ?_ (fun b2 => ?_)
  · skip
    exact frp_s h
  · skip
    refine frp_if ?_ ?_
    · skip
      exact frp_s h
    · skip
      refine frp_bs (wfX5_leastFrom hm _ _ _ h) (fun r3 σ4 h1 => ?_)
      refine frp_if ?_ ?_
      · skip
        exact frp_s h1
      · skip
        exact frp_s h1
theorem wfX11_order {m : Nat} {σ0 : S2} (hm : 8586241 ||| m = m) (τ : Nat) (σ : S2) (a1 : Int32) (h : Fr gC m σ0 σ) : FrP gC m σ0 (fX11_order τ σ a1) := by
  unfold fX11_order
  exact (wfX11_order_0 hm _ _ _ h)
theorem wfX11_turning_0 {m : Nat} {σ0 : S2} (hm : 262144 ||| m = m) (τ : Nat) (σ : S2) (x1 : Int32) (h : Fr gC m σ0 σ) : FrP gC m σ0 (fX11_turning_0 τ σ x1) := by
  unfold fX11_turning_0
  refine frp_if ?_ ?_
  · skip
    refine frp_ck (fun b1 => ?_)
    refine frp_w (Fr.wI h (tb_of (g := 18) hm rfl)) (fun σ1 h2 => ?_)
    refine frp_w (Fr.wI h2 (tb_of (g := 18) hm rfl)) (fun σ2 h3 => ?_)
    exact frp_s h3
  · skip
    exact frp_s h
theorem wfX11_turning {m : Nat} {σ0 : S2} (hm : 262144 ||| m = m) (τ : Nat) (σ : S2) (a1 : Int32) (h : Fr gC m σ0 σ) : FrP gC m σ0 (fX11_turning τ σ a1) := by
  unfold fX11_turning
  exact (wfX11_turning_0 hm _ _ _ h)
theorem wfX11_harm_0 {m : Nat} {σ0 : S2} (hm : 9176065 ||| m = m) (τ : Nat) (σ : S2) (x1 : Int32) (h : Fr gC m σ0 σ) : FrP gC m σ0 (fX11_harm_0 τ σ x1) := by
  unfold fX11_harm_0
  refine frp_bt ?_ (fun b2 => ?_)
  · skip
    exact frp_s h
  · skip
    refine frp_if ?_ ?_
    · skip
      exact frp_s h
    · skip
      refine frp_bs (wfX10_leastHarm hm _ _ _ h) (fun r3 σ4 h1 => ?_)
      exact frp_s h1
theorem wfX11_harm {m : Nat} {σ0 : S2} (hm : 9176065 ||| m = m) (τ : Nat) (σ : S2) (a1 : Int32) (h : Fr gC m σ0 σ) : FrP gC m σ0 (fX11_harm τ σ a1) := by
  unfold fX11_harm
  exact (wfX11_harm_0 hm _ _ _ h)
theorem wfX11_act_0 {m : Nat} {σ0 : S2} (hm : 1048577 ||| m = m) (τ : Nat) (σ : S2) (x1 : Int32) (x2 : Int32) (x3 : Int32) (h : Fr gC m σ0 σ) : FrP gC m σ0 (fX11_act_0 τ σ x1 x2 x3) := by
  unfold fX11_act_0
  refine frp_w (Fr.wI h (tb_of (g := 20) hm rfl)) (fun σ1 h1 => ?_)
  refine frp_bi (fun r2 => ?_)
  refine frp_if ?_ ?_
  · skip
    exact frp_s h1
  · skip
    refine frp_ck (fun b2 => ?_)
    refine frp_nm (fun v4 => ?_)
    refine frp_ck (fun b3 => ?_)
    refine frp_nm (fun v5 => ?_)
    refine frp_bs (wfX0_run hm _ _ _ _ _ _ _ h1) (fun r6 σ7 h4 => ?_)
    exact frp_s h4
theorem wfX11_act {m : Nat} {σ0 : S2} (hm : 1048577 ||| m = m) (τ : Nat) (σ : S2) (a1 : Int32) (a2 : Int32) (a3 : Int32) (h : Fr gC m σ0 σ) : FrP gC m σ0 (fX11_act τ σ a1 a2 a3) := by
  unfold fX11_act
  exact (wfX11_act_0 hm _ _ _ _ _ h)
theorem wfX11_keep_25 {m : Nat} {σ0 : S2} (hm : 2097152 ||| m = m) (τ : Nat) (σ : S2) (x1 : Int32) (x2 : Int32) (h : Fr gC m σ0 σ) : FrP gC m σ0 (fX11_keep_25 τ σ x1 x2) := by
  unfold fX11_keep_25
  refine frp_bs (wfX7_holdKeeper hm _ _ _ _ h) (fun r1 σ2 h1 => ?_)
  exact frp_s h1
theorem wfX11_keep_0 {m : Nat} {σ0 : S2} (hm : 2097152 ||| m = m) (τ : Nat) (σ : S2) (x1 : Int32) (x2 : Int32) (h : Fr gC m σ0 σ) : FrP gC m σ0 (fX11_keep_0 τ σ x1 x2) := by
  unfold fX11_keep_0
  refine frp_bi (fun r4 => ?_)
  refine frp_if ?_ ?_
  · skip
    exact frp_s h
  · skip
    refine frp_if ?_ ?_
    · skip
      exact (wfX11_keep_25 hm _ _ _ _ h)
    · skip
      refine frp_bi (fun r6 => ?_)
      refine frp_if ?_ ?_
      · skip
        exact frp_s h
      · skip
        exact (wfX11_keep_25 hm _ _ _ _ h)
theorem wfX11_keep {m : Nat} {σ0 : S2} (hm : 2097152 ||| m = m) (τ : Nat) (σ : S2) (a1 : Int32) (a2 : Int32) (h : Fr gC m σ0 σ) : FrP gC m σ0 (fX11_keep τ σ a1 a2) := by
  unfold fX11_keep
  exact (wfX11_keep_0 hm _ _ _ _ h)
theorem wfX11_row_0 {m : Nat} {σ0 : S2} (hm : 6291456 ||| m = m) (τ : Nat) (σ : S2) (x1 : Int32) (x2 : Int32) (x3 : Int32) (h : Fr gC m σ0 σ) : FrP gC m σ0 (fX11_row_0 τ σ x1 x2 x3) := by
  unfold fX11_row_0
  refine frp_bi (fun r1 => ?_)
  refine frp_if ?_ ?_
  · skip
    exact frp_s h
  · skip
    refine frp_if ?_ ?_
    · skip
      exact frp_s h
    · skip
      refine frp_if ?_ ?_
      · skip
        exact frp_s h
      · skip
        refine frp_if ?_ ?_
        · skip
          refine frp_if ?_ ?_
          · skip
            refine frp_bs (wfX7_holdRow hm _ _ _ _ _ h) (fun r3 σ4 h1 => ?_)
            exact frp_s h1
          · skip
            exact frp_s h
        · skip
          exact frp_s h
theorem wfX11_row {m : Nat} {σ0 : S2} (hm : 6291456 ||| m = m) (τ : Nat) (σ : S2) (a1 : Int32) (a2 : Int32) (a3 : Int32) (h : Fr gC m σ0 σ) : FrP gC m σ0 (fX11_row τ σ a1 a2 a3) := by
  unfold fX11_row
  exact (wfX11_row_0 hm _ _ _ _ _ h)
theorem wfX11_put_0 {m : Nat} {σ0 : S2} (hm : 4194304 ||| m = m) (τ : Nat) (σ : S2) (x1 : Int32) (x2 : Int32) (x3 : Int64) (h : Fr gC m σ0 σ) : FrP gC m σ0 (fX11_put_0 τ σ x1 x2 x3) := by
  unfold fX11_put_0
  refine frp_bi (fun r1 => ?_)
  refine frp_if ?_ ?_
  · skip
    exact frp_s h
  · skip
    refine frp_bi (fun r3 => ?_)
    refine frp_if ?_ ?_
    · skip
      refine frp_ck (fun b1 => ?_)
      refine frp_ck (fun b2 => ?_)
      refine frp_nm (fun v6 => ?_)
      refine frp_bi (fun r7 => ?_)
      refine frp_ck (fun b3 => ?_)
      refine frp_w (Fr.wL h (tr_176 (tb_of (g := 22) hm rfl) (by omega))) (fun σ9 h4 => ?_)
      exact frp_s h4
    · skip
      exact frp_s h
theorem wfX11_put {m : Nat} {σ0 : S2} (hm : 4194304 ||| m = m) (τ : Nat) (σ : S2) (a1 : Int32) (a2 : Int32) (a3 : Int64) (h : Fr gC m σ0 σ) : FrP gC m σ0 (fX11_put τ σ a1 a2 a3) := by
  unfold fX11_put
  exact (wfX11_put_0 hm _ _ _ _ _ h)
theorem wfX11_shift_0 {m : Nat} {σ0 : S2} (hm : 4194304 ||| m = m) (τ : Nat) (σ : S2) (x1 : Int32) (x2 : Int32) (x3 : Int32) (x4 : Int32) (x5 : Int32) (h : Fr gC m σ0 σ) : FrP gC m σ0 (fX11_shift_0 τ σ x1 x2 x3 x4 x5) := by
  unfold fX11_shift_0
  refine frp_bi (fun r1 => ?_)
  refine frp_if ?_ ?_
  · skip
    exact frp_s h
  · skip
    refine frp_bi (fun r3 => ?_)
    refine frp_if ?_ ?_
    · skip
      exact frp_s h
    · skip
      refine frp_bi (fun r5 => ?_)
      refine frp_if ?_ ?_
      · skip
        refine frp_bi (fun r7 => ?_)
        refine frp_if ?_ ?_
        · skip
          refine frp_bi (fun r9 => ?_)
          refine frp_if ?_ ?_
          · skip
            exact frp_s h
          · skip
            refine frp_bi (fun r11 => ?_)
            refine frp_if ?_ ?_
            · skip
              exact frp_s h
            · skip
              refine frp_ck (fun b1 => ?_)
              refine frp_nm (fun v13 => ?_)
              refine frp_ck (fun b2 => ?_)
              refine frp_nm (fun v14 => ?_)
              refine frp_if ?_ ?_
              · skip
                refine frp_bi (fun r15 => ?_)
                refine frp_if ?_ ?_
                · skip
                  exact frp_s h
                · skip
                  refine frp_bi (fun r17 => ?_)
                  refine frp_if ?_ ?_
                  · skip
                    exact frp_s h
                  · skip
                    refine frp_ck (fun b3 => ?_)
                    refine frp_ck (fun b4 => ?_)
                    refine frp_cpL ?_
                    refine frp_w (Fr.L h (fun _ => (tr_176 (tb_of (g := 22) hm rfl) (by omega)))) (fun σ21 h5 => ?_)
                    exact frp_s h5
              · skip
                exact frp_s h
        · skip
          exact frp_s h
      · skip
        exact frp_s h
theorem wfX11_shift {m : Nat} {σ0 : S2} (hm : 4194304 ||| m = m) (τ : Nat) (σ : S2) (a1 : Int32) (a2 : Int32) (a3 : Int32) (a4 : Int32) (a5 : Int32) (h : Fr gC m σ0 σ) : FrP gC m σ0 (fX11_shift τ σ a1 a2 a3 a4 a5) := by
  unfold fX11_shift
  exact (wfX11_shift_0 hm _ _ _ _ _ _ _ h)
theorem wfX11_names_0 {m : Nat} {σ0 : S2} (hm : 5 ||| m = m) (τ : Nat) (σ : S2) (x1 : Int32) (x2 : Int32) (x3 : Int32) (h : Fr gC m σ0 σ) : FrP gC m σ0 (fX11_names_0 τ σ x1 x2 x3) := by
  unfold fX11_names_0
  refine frp_bi (fun r1 => ?_)
  refine frp_if ?_ ?_
  · skip
    exact frp_s h
  · skip
    refine frp_if ?_ ?_
    · skip
      exact frp_s h
    · skip
      refine frp_if ?_ ?_
      · skip
        refine frp_bi (fun r3 => ?_)
        refine frp_if ?_ ?_
        · skip
          refine frp_bi (fun r5 => ?_)
          refine frp_if ?_ ?_
          · skip
            exact frp_s h
          · skip
            refine frp_ck (fun b1 => ?_)
            refine frp_nm (fun v7 => ?_)
            refine frp_if ?_ ?_
            · skip
              refine frp_ck (fun b2 => ?_)
              refine frp_ck (fun b3 => ?_)
              refine frp_nm (fun v9 => ?_)
              refine frp_bs (wfX4_addFrom hm _ _ _ _ _ _ _ h) (fun r10 σ11 h4 => ?_)
              exact frp_s h4
            · skip
              exact frp_s h
        · skip
          exact frp_s h
      · skip
        exact frp_s h
theorem wfX11_names {m : Nat} {σ0 : S2} (hm : 5 ||| m = m) (τ : Nat) (σ : S2) (a1 : Int32) (a2 : Int32) (a3 : Int32) (h : Fr gC m σ0 σ) : FrP gC m σ0 (fX11_names τ σ a1 a2 a3) := by
  unfold fX11_names
  exact (wfX11_names_0 hm _ _ _ _ _ h)
end
section
/-! what an answer is, if there is one: partial rules over the decompiled functions -/
noncomputable def Pt {α : Type} (Q : α → Prop) (o : Option α) : Prop := ∀ z, o = some z → Q z
section PT
variable {α β : Type} {Q : β → Prop}
theorem pt_none : Pt Q none := fun _ h => by cases h
theorem pt_some {z : β} (h : Q z) : Pt Q (some z) := fun _ e => by cases e; exact h
theorem pt_mono {P : β → Prop} {o : Option β} (h : Pt P o) (k : ∀ z, P z → Q z) : Pt Q o := fun z e => k z (h z e)
theorem pt_and {P : β → Prop} {o : Option β} (h : Pt P o) (h2 : Pt Q o) : Pt (fun z => P z ∧ Q z) o := fun z e => ⟨h z e, h2 z e⟩
theorem pt_if {c : Prop} {d : Decidable c} {A B : Option β} (h1 : c → Pt Q A) (h2 : ¬ c → Pt Q B) : Pt Q (@ite _ c d A B) := by
  by_cases h : c
  · rw [if_pos h]; exact h1 h
  · rw [if_neg h]; exact h2 h
theorem pt_nm {a : α} {K : α → Option β} (h : ∀ v, v = a → Pt Q (K v)) : Pt Q (nm a K) := h a rfl
theorem pt_ck {n : Nat} {i : Int32} {K : Option β} (h : 0 ≤ i.toInt → i.toInt < (n : Int) → (i.toNatClampNeg : Int) = i.toInt → Pt Q K) : Pt Q (ck n i K) := by
  unfold ck
  by_cases c : i < 0 ∨ n ≤ i.toNatClampNeg
  · rw [if_pos c]; exact pt_none
  · rw [if_neg c]
    have z0 : (0 : Int32).toInt = 0 := rfl
    have h0 : 0 ≤ i.toInt := by
      by_cases q : i.toInt < 0
      · exact absurd (Or.inl (Int32.lt_iff_toInt_lt.mpr (by rw [z0]; exact q))) c
      · omega
    have e := i32_nat h0
    have h1 : ¬ n ≤ i.toNatClampNeg := fun q => c (Or.inr q)
    exact h h0 (by omega) e
theorem pt_dz {y : Int32} {K : Option β} (h : y.toInt ≠ 0 → Pt Q K) : Pt Q (dz y K) := pt_if (fun _ => pt_none) (fun c => h (fun q => c (Int32.toInt_inj.mp q)))
theorem pt_zb {v : Int32} {K : Option β} (h : Pt Q K) : Pt Q (zb v K) := pt_if (fun _ => h) (fun _ => pt_none)
theorem pt_zf {v : Int32} {K : Option β} (h : Pt Q K) : Pt Q (zf v K) := pt_if (fun _ => h) (fun _ => pt_none)
theorem pt_cpL {n0 n1 : Nat} {f : Nat → Int64} {a b n : Int32} {K : Option β} (h : cpOk n0 n1 a b n → Pt Q K) : Pt Q (cpL n0 n1 f a b n K) := pt_if (fun c => h c.1) (fun _ => pt_none)
theorem pt_cp {ty : FieldType} {n0 n1 : Nat} {f : Nat → Int32} {a b n : Int32} {K : Option β} (h : cpOk n0 n1 a b n → Pt Q K) : Pt Q (cp ty n0 n1 f a b n K) := pt_if (fun c => h c.1) (fun _ => pt_none)
theorem pt_bi {P : α → Prop} {o : Option α} {K : α → Option β} (h : Pt P o) (k : ∀ r, P r → Pt Q (K r)) : Pt Q (bi o K) := by
  cases o with
  | none => exact pt_none
  | some r => exact k r (h r rfl)
theorem pt_bs {P : α × S2 → Prop} {o : Option (α × S2)} {K : α → S2 → Option β} (h : Pt P o) (k : ∀ r σ, P (r, σ) → Pt Q (K r σ)) : Pt Q (bs o K) := by
  cases o with
  | none => exact pt_none
  | some r => exact k r.1 r.2 (h r rfl)
theorem pt_le {a b : Int32} {A B : Option β} (h1 : a.toInt ≤ b.toInt → Pt Q A) (h2 : b.toInt < a.toInt → Pt Q B) : Pt Q (if a ≤ b then A else B) := pt_if (fun c => h1 (Int32.le_iff_toInt_le.mp c)) (fun c => h2 (Int.not_le.mp (fun q => c (Int32.le_iff_toInt_le.mpr q))))
theorem pt_lt {a b : Int32} {A B : Option β} (h1 : a.toInt < b.toInt → Pt Q A) (h2 : b.toInt ≤ a.toInt → Pt Q B) : Pt Q (if a < b then A else B) := pt_if (fun c => h1 (Int32.lt_iff_toInt_lt.mp c)) (fun c => h2 (Int.not_lt.mp (fun q => c (Int32.lt_iff_toInt_lt.mpr q))))
theorem pt_eq {a b : Int32} {A B : Option β} (h1 : a.toInt = b.toInt → Pt Q A) (h2 : a.toInt ≠ b.toInt → Pt Q B) : Pt Q (if a = b then A else B) := pt_if (fun c => h1 (by rw [c])) (fun c => h2 (fun q => c (Int32.toInt_inj.mp q)))
theorem pt_fr {g : Nat → Nat → Nat} {m : Nat} {σ0 : S2} {o : Option (α × S2)} (h : FrP g m σ0 o) : Pt (fun z => Fr g m σ0 z.2) o := h
end PT
theorem Fr.at {g : Nat → Nat → Nat} {m : Nat} {σ σ' : S2} (h : Fr g m σ σ') (k i n : Nat) (e : g k i = n) (hn : m.testBit n = false) : σ'.1 k i = σ.1 k i := (h k i (by rw [e]; exact hn)).1
theorem i_0 : (0 : Int32).toInt = 0 := rfl
theorem i_1 : (1 : Int32).toInt = 1 := rfl
theorem i_2 : (2 : Int32).toInt = 2 := rfl
theorem i_4 : (4 : Int32).toInt = 4 := rfl
theorem i_5 : (5 : Int32).toInt = 5 := rfl
theorem i_6 : (6 : Int32).toInt = 6 := rfl
theorem i_8 : (8 : Int32).toInt = 8 := rfl
theorem i_12 : (12 : Int32).toInt = 12 := rfl
theorem i_m1 : ((-1) : Int32).toInt = -1 := by decide
theorem i_m3 : ((-3) : Int32).toInt = -3 := by decide
theorem i_m11 : ((-11) : Int32).toInt = -11 := by decide
theorem i_m12 : ((-12) : Int32).toInt = -12 := by decide
theorem i_m13 : ((-13) : Int32).toInt = -13 := by decide
theorem i_m14 : ((-14) : Int32).toInt = -14 := by decide
/-! the small questions of both sides -/
theorem q_has {τ : Nat} {σ : S2} {a : Int32} : Pt (fun r => (r.toInt = 0 ∧ ¬ (0 ≤ a.toInt ∧ a.toInt < (σ.1 7 5).toInt)) ∨ (r.toInt = 1 ∧ 0 ≤ a.toInt ∧ a.toInt < (σ.1 7 5).toInt)) (fX2_has τ σ a) := by
  have z0 := i_0
  have z1 := i_1
  unfold fX2_has fX2_has_0
  refine pt_lt (fun h => pt_some ?_) (fun h => pt_le (fun h2 => pt_some ?_) (fun h2 => pt_some ?_))
  · rw [z0]; omega
  · rw [z0]; omega
  · rw [z1]; omega
theorem q_str {τ : Nat} {σ : S2} {a : Int32} : Pt (fun r => (r.toInt = 0 ∧ ¬ (1 ≤ a.toInt ∧ a.toInt ≤ 8)) ∨ (r.toInt = 1 ∧ 1 ≤ a.toInt ∧ a.toInt ≤ 8)) (fX11_isStrength τ σ a) := by
  have z0 := i_0
  have z1 := i_1
  have z8 := i_8
  unfold fX11_isStrength fX11_isStrength_0
  refine pt_lt (fun h => pt_some ?_) (fun h => pt_lt (fun h2 => pt_some ?_) (fun h2 => pt_some ?_))
  · rw [z0]; omega
  · rw [z0]; omega
  · rw [z1]; omega
theorem q_kind {τ : Nat} {σ : S2} {a : Int32} : Pt (fun r => (r.toInt = 0 ∧ ¬ (0 ≤ a.toInt ∧ a.toInt ≤ 6)) ∨ (r.toInt = 1 ∧ 0 ≤ a.toInt ∧ a.toInt ≤ 6)) (fX11_isKind τ σ a) := by
  have z0 := i_0
  have z1 := i_1
  have z6 := i_6
  unfold fX11_isKind fX11_isKind_0
  refine pt_lt (fun h => pt_some ?_) (fun h => pt_lt (fun h2 => pt_some ?_) (fun h2 => pt_some ?_))
  · rw [z0]; omega
  · rw [z0]; omega
  · rw [z1]; omega
theorem q_shelf {τ : Nat} {σ : S2} {a : Int32} : Pt (fun r => (r.toInt = 0 ∧ ¬ (0 ≤ a.toInt ∧ a.toInt ≤ 5)) ∨ (r.toInt = 1 ∧ 0 ≤ a.toInt ∧ a.toInt ≤ 5)) (fX11_isShelf τ σ a) := by
  have z0 := i_0
  have z1 := i_1
  have z6 := i_6
  unfold fX11_isShelf fX11_isShelf_0
  refine pt_lt (fun h => pt_some ?_) (fun h => pt_le (fun h2 => pt_some ?_) (fun h2 => pt_some ?_))
  · rw [z0]; omega
  · rw [z0]; omega
  · rw [z1]; omega
theorem q_in {σ : S2} {a b c : Int32} : Pt (fun r => (r.toInt = 0 ∧ ¬ (b.toInt ≤ a.toInt ∧ a.toInt ≤ c.toInt)) ∨ (r.toInt = 1 ∧ b.toInt ≤ a.toInt ∧ a.toInt ≤ c.toInt)) (fX12_in σ a b c) := by
  have z0 := i_0
  have z1 := i_1
  unfold fX12_in fX12_in_0
  refine pt_lt (fun h => pt_some ?_) (fun h => pt_lt (fun h2 => pt_some ?_) (fun h2 => pt_some ?_))
  · rw [z0]; omega
  · rw [z0]; omega
  · rw [z1]; omega
theorem q_shelfM {σ : S2} {a : Int32} : Pt (fun r => (r.toInt = 0 ∧ ¬ (0 ≤ a.toInt ∧ a.toInt ≤ 5)) ∨ (r.toInt = 1 ∧ 0 ≤ a.toInt ∧ a.toInt ≤ 5)) (fX12_isShelf σ a) := by
  have z0 := i_0
  have z5 := i_5
  unfold fX12_isShelf fX12_isShelf_0
  refine pt_bi q_in (fun r h => pt_zb (pt_some ?_))
  omega
theorem q_keeperB {ρ : S2} {a : Int32} (b : 0 ≤ (ρ.1 0 3).toInt ∧ (ρ.1 0 3).toInt ≤ 12) : Pt (fun r => (r.toInt = 0 ∧ ¬ (0 ≤ a.toInt ∧ a.toInt < (ρ.1 0 3).toInt)) ∨ (r.toInt = 1 ∧ 0 ≤ a.toInt ∧ a.toInt < (ρ.1 0 3).toInt)) (fX12_isKeeper ρ a) := by
  have z0 := i_0
  have z1 := i_1
  have e : ((ρ.1 0 3) - 1).toInt = (ρ.1 0 3).toInt - 1 := by rw [i32_sub (by omega) (by omega)]; omega
  unfold fX12_isKeeper fX12_isKeeper_0
  refine pt_bi q_in (fun r h => pt_zb (pt_some ?_))
  omega
theorem q_keeperM {ρ : S2} {a : Int32} (hM : IvM 0 ρ) : Pt (fun r => (r.toInt = 0 ∧ ¬ (0 ≤ a.toInt ∧ a.toInt < (ρ.1 0 3).toInt)) ∨ (r.toInt = 1 ∧ 0 ≤ a.toInt ∧ a.toInt < (ρ.1 0 3).toInt)) (fX12_isKeeper ρ a) := q_keeperB (hM.1 0 3)
end
section
/-! the relation of class (σ) and reference (ρ): keepers, falls, acts, shelves, elements -/
noncomputable def RK (σ ρ : S2) : Prop := ρ.1 0 3 = σ.1 7 5 ∧ (∀ i : Nat, ρ.1 5 i = σ.1 8 i) ∧ (∀ i : Nat, (σ.1 7 5).toInt ≤ (i : Int) → σ.1 8 i = 0) ∧ (∀ i : Nat, ρ.1 3 i = σ.1 9 i) ∧ ∀ i : Nat, ρ.1 4 i = σ.1 10 i
noncomputable def RF (σ ρ : S2) : Prop := ∀ i : Nat, ρ.1 7 i = σ.1 12 i
noncomputable def RA (σ ρ : S2) : Prop := ρ.1 0 38 = σ.1 35 1 ∧ ∀ i : Nat, ρ.1 29 i = σ.1 36 i
noncomputable def RS (σ ρ : S2) : Prop := ∀ i : Nat, i < 6 → ρ.1 30 i = σ.1 38 i ∧ ρ.1 31 i = σ.1 39 i ∧ (σ.1 39 i ≠ -1 → ρ.1 32 i = σ.1 40 i ∧ σ.1 38 i = -1) ∧ (σ.1 38 i).toInt < (σ.1 7 5).toInt
noncomputable def RE (σ ρ : S2) : Prop := ∀ s i : Nat, s < 6 → i < 60 → ρ.2 33 (60 * s + i) = σ.2 (176 + s) i
noncomputable def RelA (σ ρ : S2) : Prop := RK σ ρ ∧ RF σ ρ ∧ RA σ ρ ∧ RS σ ρ ∧ RE σ ρ
theorem gC_el {s i : Nat} (h : s < 6) : gC (176 + s) i = 22 := by
  unfold gC
  rw [if_neg (by omega), if_neg (by omega), if_neg (by omega), if_neg (by omega), if_neg (by omega), if_neg (by omega), if_neg (by omega), if_neg (by omega), if_pos (by omega)]
section FRAMES
variable {σ ρ σ' ρ' : S2} {a b : Nat}
theorem RK.fr (h : RK σ ρ) (hc : Fr gC a σ σ') (hm : Fr gM b ρ ρ') (e3 : a.testBit 3 = false) (e4 : a.testBit 4 = false) (e5 : a.testBit 5 = false) (e6 : a.testBit 6 = false) (f3 : b.testBit 3 = false) (f4 : b.testBit 4 = false) (f5 : b.testBit 5 = false) (f6 : b.testBit 6 = false) : RK σ' ρ' := by
  obtain ⟨h1, h2, h3, h4, h5⟩ := h
  have c := (hc 7 5 e3).1
  refine ⟨?_, fun i => ?_, fun i q => ?_, fun i => ?_, fun i => ?_⟩
  · rw [c, (hm 0 3 f3).1]; exact h1
  · rw [(hc 8 i e4).1, (hm 5 i f4).1]; exact h2 i
  · rw [(hc 8 i e4).1]; exact h3 i (by rw [c] at q; exact q)
  · rw [(hc 9 i e5).1, (hm 3 i f5).1]; exact h4 i
  · rw [(hc 10 i e6).1, (hm 4 i f6).1]; exact h5 i
theorem RF.fr (h : RF σ ρ) (hc : Fr gC a σ σ') (hm : Fr gM b ρ ρ') (e8 : a.testBit 8 = false) (f8 : b.testBit 8 = false) : RF σ' ρ' := fun i => by
  rw [(hc 12 i e8).1, (hm 7 i f8).1]; exact h i
theorem RA.fr (h : RA σ ρ) (hc : Fr gC a σ σ') (hm : Fr gM b ρ ρ') (e : a.testBit 20 = false) (f : b.testBit 20 = false) : RA σ' ρ' := by
  refine ⟨?_, fun i => ?_⟩
  · rw [(hc 35 1 e).1, (hm 0 38 f).1]; exact h.1
  · rw [(hc 36 i e).1, (hm 29 i f).1]; exact h.2 i
theorem RS.fr (h : RS σ ρ) (hc : Fr gC a σ σ') (hm : Fr gM b ρ ρ') (e : a.testBit 21 = false) (f : b.testBit 21 = false) (e3 : (σ.1 7 5).toInt ≤ (σ'.1 7 5).toInt) : RS σ' ρ' := fun i hi => by
  obtain ⟨h1, h2, h3, h4⟩ := h i hi
  rw [(hc 38 i e).1, (hc 39 i e).1, (hc 40 i e).1, (hm 30 i f).1, (hm 31 i f).1, (hm 32 i f).1]
  exact ⟨h1, h2, h3, by omega⟩
theorem RE.fr (h : RE σ ρ) (hc : Fr gC a σ σ') (hm : Fr gM b ρ ρ') (e : a.testBit 22 = false) (f : b.testBit 22 = false) : RE σ' ρ' := fun s i hs hi => by
  rw [(hc (176 + s) i (by rw [gC_el hs]; exact e)).2, (hm 33 _ f).2]; exact h s i hs hi
end FRAMES
section KEEPERS
variable {σ ρ : S2} {τ : Nat} {a b : Int32}
theorem c_keeper (hI : IvC 0 τ σ) : Pt (fun z => (z.2 = σ ∧ ((z.1.toInt = -1 ∧ ¬ (0 ≤ a.toInt ∧ a.toInt ≤ 5 ∧ 1 ≤ b.toInt ∧ b.toInt ≤ 8)) ∨ (z.1.toInt = -3 ∧ (0 ≤ a.toInt ∧ a.toInt ≤ 5 ∧ 1 ≤ b.toInt ∧ b.toInt ≤ 8) ∧ 12 ≤ (σ.1 7 5).toInt))) ∨ ((0 ≤ a.toInt ∧ a.toInt ≤ 5 ∧ 1 ≤ b.toInt ∧ b.toInt ≤ 8) ∧ (σ.1 7 5).toInt < 12 ∧ z.1 = σ.1 7 5 ∧ z.2.1 7 5 = σ.1 7 5 + 1 ∧ (∀ i : Nat, z.2.1 8 i = if i = (σ.1 7 5).toNatClampNeg then 0 else σ.1 8 i) ∧ (∀ i : Nat, z.2.1 9 i = if i = (σ.1 7 5).toNatClampNeg then a else σ.1 9 i) ∧ ∀ i : Nat, z.2.1 10 i = if i = (σ.1 7 5).toNatClampNeg then b else σ.1 10 i)) (fX11_keeper τ σ a b) := by
  have z0 := i_0
  have z5 := i_5
  have z12 := i_12
  have y1 := i_m1
  have y3 := i_m3
  unfold fX11_keeper fX11_keeper_0
  refine pt_lt (fun h => pt_some (Or.inl ⟨rfl, Or.inl ⟨y1, by omega⟩⟩)) (fun h1 => ?_)
  refine pt_lt (fun h => pt_some (Or.inl ⟨rfl, Or.inl ⟨y1, by omega⟩⟩)) (fun h2 => ?_)
  refine pt_bi q_str (fun r hr => ?_)
  refine pt_eq (fun h => pt_some (Or.inl ⟨rfl, Or.inl ⟨y1, by omega⟩⟩)) (fun h3 => ?_)
  refine pt_lt (fun h4 => ?_) (fun h => pt_some (Or.inl ⟨rfl, Or.inr ⟨y3, by omega, by omega⟩⟩))
  refine pt_bs (P := fun z => z.1 = σ.1 7 5 ∧ z.2.1 7 5 = σ.1 7 5 + 1 ∧ (∀ i : Nat, z.2.1 8 i = if i = (σ.1 7 5).toNatClampNeg then 0 else σ.1 8 i) ∧ (∀ i : Nat, z.2.1 9 i = if i = (σ.1 7 5).toNatClampNeg then a else σ.1 9 i) ∧ ∀ i : Nat, z.2.1 10 i = if i = (σ.1 7 5).toNatClampNeg then b else σ.1 10 i) ?_ (fun r4 σ4 h5 => pt_some (Or.inr ⟨by omega, by omega, h5⟩))
  unfold fX2_add fX2_add_0
  refine pt_ck (fun _ _ _ => pt_nm (fun s1 e1 => ?_))
  subst e1
  refine pt_ck (fun _ _ _ => pt_nm (fun s1 e1 => ?_))
  subst e1
  refine pt_ck (fun _ _ _ => pt_nm (fun s1 e1 => ?_))
  subst e1
  refine pt_ck (fun _ _ _ => pt_nm (fun s1 e1 => ?_))
  subst e1
  refine pt_nm (fun s1 e1 => ?_)
  subst e1
  refine pt_some ⟨?_, rfl, fun i => ?_, fun i => ?_, fun i => ?_⟩
  · show σ.1 7 5 + 1 - 1 = σ.1 7 5
    exact Int32.add_sub_cancel _ _
  · rfl
  · rfl
  · rfl
theorem m_keeper (hM : IvM 0 ρ) : Pt (fun z => (z.2 = ρ ∧ ((z.1.toInt = -1 ∧ ¬ (0 ≤ a.toInt ∧ a.toInt ≤ 5 ∧ 1 ≤ b.toInt ∧ b.toInt ≤ 8)) ∨ (z.1.toInt = -3 ∧ (0 ≤ a.toInt ∧ a.toInt ≤ 5 ∧ 1 ≤ b.toInt ∧ b.toInt ≤ 8) ∧ (ρ.1 0 3).toInt = 12))) ∨ ((0 ≤ a.toInt ∧ a.toInt ≤ 5 ∧ 1 ≤ b.toInt ∧ b.toInt ≤ 8) ∧ (ρ.1 0 3).toInt ≠ 12 ∧ z.1 = ρ.1 0 3 ∧ z.2.1 0 3 = ρ.1 0 3 + 1 ∧ (∀ i : Nat, z.2.1 5 i = ρ.1 5 i) ∧ (∀ i : Nat, z.2.1 3 i = if i = (ρ.1 0 3).toNatClampNeg then a else ρ.1 3 i) ∧ ∀ i : Nat, z.2.1 4 i = if i = (ρ.1 0 3).toNatClampNeg then b else ρ.1 4 i)) (fX12_keeper ρ a b) := by
  have z0 := i_0
  have z1 := i_1
  have z5 := i_5
  have z8 := i_8
  have z12 := i_12
  have y1 := i_m1
  have y3 := i_m3
  unfold fX12_keeper fX12_keeper_0
  refine pt_bi q_in (fun r hr => ?_)
  refine pt_eq (fun h => pt_some (Or.inl ⟨rfl, Or.inl ⟨y1, by omega⟩⟩)) (fun h1 => ?_)
  refine pt_bi q_in (fun r2 hr2 => ?_)
  refine pt_eq (fun h => pt_some (Or.inl ⟨rfl, Or.inl ⟨y1, by omega⟩⟩)) (fun h2 => ?_)
  refine pt_eq (fun h => pt_some (Or.inl ⟨rfl, Or.inr ⟨y3, by omega, by omega⟩⟩)) (fun h3 => ?_)
  refine pt_ck (fun _ _ _ => pt_nm (fun s1 e1 => ?_))
  subst e1
  refine pt_ck (fun _ _ _ => pt_nm (fun s1 e1 => ?_))
  subst e1
  refine pt_nm (fun s1 e1 => ?_)
  subst e1
  refine pt_some (Or.inr ⟨by omega, by omega, ?_, rfl, fun i => ?_, fun i => ?_, fun i => ?_⟩)
  · show ρ.1 0 3 + 1 - 1 = ρ.1 0 3
    exact Int32.add_sub_cancel _ _
  · rfl
  · rfl
  · rfl
end KEEPERS
theorem st_keeper {σ ρ σ' ρ' : S2} {τ : Nat} {a b r q : Int32} (hR : RelA σ ρ) (hI : IvC 0 τ σ) (hM : IvM 0 ρ) (h : fX11_keeper τ σ a b = some (r, σ')) (h2 : fX12_keeper ρ a b = some (q, ρ')) : r = q ∧ RelA σ' ρ' := by
  have y1 := i_m1
  have y3 := i_m3
  have z1 := i_1
  have p1 := c_keeper (a := a) (b := b) hI _ h
  have p2 := m_keeper (a := a) (b := b) hM _ h2
  obtain ⟨⟨k1, k2, k3, k4, k5⟩, hF, hA, hS, hE⟩ := hR
  have b1 : 0 ≤ (σ.1 7 5).toInt ∧ (σ.1 7 5).toInt ≤ 12 := hI.1 7 5
  have fc := wfX11_keeper (m := 248) rfl τ σ a b (Fr.rf σ) _ h
  have fm := wfX12_keeper (m := 104) rfl ρ a b (Fr.rf ρ) _ h2
  have n1 := i32_nat b1.1
  rw [k1] at p2
  rcases p1 with ⟨e, p1⟩ | ⟨g, g2, e, e2, e3, e4, e5⟩ <;> rcases p2 with ⟨d, p2⟩ | ⟨f, f2, d, d2, d3, d4, d5⟩
  · have e : σ' = σ := e
    have d : ρ' = ρ := d
    subst e; subst d
    refine ⟨Int32.toInt_inj.mp ?_, ⟨k1, k2, k3, k4, k5⟩, hF, hA, hS, hE⟩
    show r.toInt = q.toInt
    have p1' : (r.toInt = -1 ∧ _) ∨ (r.toInt = -3 ∧ _) := p1
    have p2' : (q.toInt = -1 ∧ _) ∨ (q.toInt = -3 ∧ _) := p2
    omega
  · exfalso; omega
  · exfalso; omega
  · have s1 : (σ.1 7 5 + 1).toInt = (σ.1 7 5).toInt + 1 := by rw [i32_add (by omega) (by omega)]; omega
    have e2 : σ'.1 7 5 = σ.1 7 5 + 1 := e2
    refine ⟨e.trans d.symm, ⟨?_, fun i => ?_, fun i hi => ?_, fun i => ?_, fun i => ?_⟩, hF.fr fc fm rfl rfl, hA.fr fc fm rfl rfl, hS.fr fc fm rfl rfl (by rw [e2, s1]; omega), hE.fr fc fm rfl rfl⟩
    · exact d2.trans e2.symm
    · show ρ'.1 5 i = σ'.1 8 i
      rw [show ρ'.1 5 i = _ from d3 i, show σ'.1 8 i = _ from e3 i, k2 i]
      by_cases c : i = (σ.1 7 5).toNatClampNeg
      · rw [if_pos c]; exact k3 i (by omega)
      · rw [if_neg c]
    · show σ'.1 8 i = 0
      rw [show σ'.1 8 i = _ from e3 i]
      by_cases c : i = (σ.1 7 5).toNatClampNeg
      · rw [if_pos c]
      · rw [if_neg c]; rw [show (σ', r).1.1 7 5 = σ.1 7 5 + 1 from e2, s1] at hi; exact k3 i (by omega)
    · show ρ'.1 3 i = σ'.1 9 i
      rw [show ρ'.1 3 i = _ from d4 i, show σ'.1 9 i = _ from e4 i, k4 i]
    · show ρ'.1 4 i = σ'.1 10 i
      rw [show ρ'.1 4 i = _ from d5 i, show σ'.1 10 i = _ from e5 i, k5 i]
end
section
section KEEPERS
variable {σ ρ : S2} {τ : Nat} {a b : Int32}
/-! strength, kind and fall of a keeper -/
theorem c_strength : Pt (fun z => (z.2 = σ ∧ z.1.toInt = -1 ∧ ¬ ((0 ≤ a.toInt ∧ a.toInt < (σ.1 7 5).toInt) ∧ 1 ≤ b.toInt ∧ b.toInt ≤ 8)) ∨ (((0 ≤ a.toInt ∧ a.toInt < (σ.1 7 5).toInt) ∧ 1 ≤ b.toInt ∧ b.toInt ≤ 8) ∧ z.1 = σ.1 10 a.toNatClampNeg ∧ z.2 = ux_wI σ 10 a.toNatClampNeg b)) (fX11_strength τ σ a b) := by
  have z0 := i_0
  have y1 := i_m1
  unfold fX11_strength fX11_strength_0
  refine pt_bi q_has (fun r hr => ?_)
  refine pt_eq (fun h => pt_some (Or.inl ⟨rfl, y1, by omega⟩)) (fun h1 => ?_)
  refine pt_bi q_str (fun r2 hr2 => ?_)
  refine pt_eq (fun h => pt_some (Or.inl ⟨rfl, y1, by omega⟩)) (fun h2 => ?_)
  refine pt_ck (fun _ _ _ => pt_nm (fun v e => pt_ck (fun _ _ _ => pt_nm (fun s1 e1 => ?_))))
  exact pt_some (Or.inr ⟨by omega, e, e1⟩)
theorem m_strength (hM : IvM 0 ρ) : Pt (fun z => (z.2 = ρ ∧ z.1.toInt = -1 ∧ ¬ ((0 ≤ a.toInt ∧ a.toInt < (ρ.1 0 3).toInt) ∧ 1 ≤ b.toInt ∧ b.toInt ≤ 8)) ∨ (((0 ≤ a.toInt ∧ a.toInt < (ρ.1 0 3).toInt) ∧ 1 ≤ b.toInt ∧ b.toInt ≤ 8) ∧ z.1 = ρ.1 4 a.toNatClampNeg ∧ z.2 = ux_wI ρ 4 a.toNatClampNeg b)) (fX12_strength ρ a b) := by
  have z0 := i_0
  have z1 := i_1
  have z8 := i_8
  have y1 := i_m1
  unfold fX12_strength fX12_strength_0
  refine pt_bi (q_keeperM hM) (fun r hr => ?_)
  refine pt_eq (fun h => pt_some (Or.inl ⟨rfl, y1, by omega⟩)) (fun h1 => ?_)
  refine pt_bi q_in (fun r2 hr2 => ?_)
  refine pt_eq (fun h => pt_some (Or.inl ⟨rfl, y1, by omega⟩)) (fun h2 => ?_)
  refine pt_ck (fun _ _ _ => pt_nm (fun v e => pt_ck (fun _ _ _ => pt_nm (fun s1 e1 => ?_))))
  exact pt_some (Or.inr ⟨by omega, e, e1⟩)
theorem c_become : Pt (fun z => (z.2 = σ ∧ z.1.toInt = -1 ∧ ¬ ((0 ≤ a.toInt ∧ a.toInt < (σ.1 7 5).toInt) ∧ 0 ≤ b.toInt ∧ b.toInt ≤ 6)) ∨ (((0 ≤ a.toInt ∧ a.toInt < (σ.1 7 5).toInt) ∧ 0 ≤ b.toInt ∧ b.toInt ≤ 6) ∧ z.1 = σ.1 8 a.toNatClampNeg ∧ Fr gC 6144 (ux_wI σ 8 a.toNatClampNeg b) z.2)) (fX11_become τ σ a b) := by
  have z0 := i_0
  have y1 := i_m1
  unfold fX11_become fX11_become_0
  refine pt_bi q_has (fun r hr => ?_)
  refine pt_eq (fun h => pt_some (Or.inl ⟨rfl, y1, by omega⟩)) (fun h1 => ?_)
  refine pt_bi q_kind (fun r2 hr2 => ?_)
  refine pt_eq (fun h => pt_some (Or.inl ⟨rfl, y1, by omega⟩)) (fun h2 => ?_)
  refine pt_ck (fun _ _ _ => pt_nm (fun v e => pt_ck (fun _ _ _ => pt_nm (fun s1 e1 => ?_))))
  subst e1
  refine pt_eq (fun _ => pt_eq (fun _ => ?_) (fun _ => ?_)) (fun _ => ?_)
  · exact pt_some (Or.inr ⟨by omega, e, Fr.rf _⟩)
  · refine pt_bs (pt_fr (wfX6_handBack (m := 6144) rfl τ _ a (Fr.rf _))) (fun r3 σ3 h3 => ?_)
    exact pt_some (Or.inr ⟨by omega, e, h3⟩)
  · exact pt_some (Or.inr ⟨by omega, e, Fr.rf _⟩)
theorem m_become_37 (n : Nat) {σ0 : S2} {x3 : Int32} : ∀ (σ : S2) (x1 x2 x4 : Int32), Fr gM 6144 σ0 σ → Pt (fun z : Int32 × S2 => z.1 = x3 ∧ Fr gM 6144 σ0 z.2) (fX12_become_37 n σ x1 x2 x3 x4) := by
  induction n with
  | zero => intro σ x1 x2 x4 _; exact pt_none
  | succ n ih =>
    intro σ x1 x2 x4 hf
    have k136 : ∀ (σ : S2) (x4 : Int32), Fr gM 6144 σ0 σ → Pt (fun z : Int32 × S2 => z.1 = x3 ∧ Fr gM 6144 σ0 z.2) (fX12_become_136 (fX12_become_37 n) σ x1 x2 x3 x4) := fun σ x4 hf => by
      unfold fX12_become_136
      exact pt_nm (fun v _ => ih _ _ _ _ hf)
    have k118 : ∀ (σ : S2) (x4 s0 s1 : Int32), Fr gM 6144 σ0 σ → Pt (fun z : Int32 × S2 => z.1 = x3 ∧ Fr gM 6144 σ0 z.2) (fX12_become_118 (fX12_become_37 n) σ x1 x2 x3 x4 s0 s1) := fun σ x4 s0 s1 hf => by
      unfold fX12_become_118
      refine pt_ck (fun _ _ _ => pt_nm (fun _ e => ?_))
      subst e
      have hf := Fr.wI (x := s0) (k := 20) (i := s1.toNatClampNeg) hf (show Nat.testBit 6144 11 = true from rfl)
      refine pt_ck (fun _ _ _ => pt_nm (fun _ e => ?_))
      subst e
      have hf := Fr.wI (x := 0) (k := 21) (i := x4.toNatClampNeg) hf (show Nat.testBit 6144 12 = true from rfl)
      refine pt_ck (fun _ _ _ => pt_nm (fun _ e => ?_))
      subst e
      exact k136 _ _ (Fr.wI (k := 22) hf (show Nat.testBit 6144 12 = true from rfl))
    unfold fX12_become_37
    refine pt_if (fun _ => pt_some ⟨rfl, hf⟩) (fun _ => pt_if (fun _ => pt_if (fun _ => pt_some ⟨rfl, hf⟩) (fun _ => ?_)) (fun _ => pt_some ⟨rfl, hf⟩))
    refine pt_ck (fun _ _ _ => pt_nm (fun _ _ => pt_if (fun _ => ?_) (fun _ => k136 _ _ hf)))
    refine pt_dz (fun _ => pt_nm (fun _ _ => pt_ck (fun _ _ _ => pt_nm (fun _ _ => pt_ck (fun _ _ _ => pt_nm (fun _ _ => ?_))))))
    exact pt_if (fun _ => pt_ck (fun _ _ _ => pt_nm (fun _ _ => k118 _ _ _ _ hf))) (fun _ => pt_ck (fun _ _ _ => pt_nm (fun _ _ => k118 _ _ _ _ hf)))
theorem m_become (hM : IvM 0 ρ) : Pt (fun z => (z.2 = ρ ∧ z.1.toInt = -1 ∧ ¬ ((0 ≤ a.toInt ∧ a.toInt < (ρ.1 0 3).toInt) ∧ 0 ≤ b.toInt ∧ b.toInt ≤ 6)) ∨ (((0 ≤ a.toInt ∧ a.toInt < (ρ.1 0 3).toInt) ∧ 0 ≤ b.toInt ∧ b.toInt ≤ 6) ∧ z.1 = ρ.1 5 a.toNatClampNeg ∧ Fr gM 6144 (ux_wI ρ 5 a.toNatClampNeg b) z.2)) (fX12_become ρ a b) := by
  have z0 := i_0
  have z6 := i_6
  have y1 := i_m1
  unfold fX12_become fX12_become_0
  refine pt_bi (q_keeperM hM) (fun r hr => ?_)
  refine pt_eq (fun h => pt_some (Or.inl ⟨rfl, y1, by omega⟩)) (fun h1 => ?_)
  refine pt_bi q_in (fun r2 hr2 => ?_)
  refine pt_eq (fun h => pt_some (Or.inl ⟨rfl, y1, by omega⟩)) (fun h2 => ?_)
  refine pt_ck (fun _ _ _ => pt_nm (fun v e => pt_ck (fun _ _ _ => pt_nm (fun s1 e1 => ?_))))
  subst e1; subst e
  exact pt_mono (m_become_37 FU _ _ _ _ (Fr.rf _)) (fun z hz => Or.inr ⟨by omega, hz.1, hz.2⟩)
theorem c_fall_58 {x3 : Int32} {s0 s1 : Int32} : Pt (fun z : Int32 × S2 => z.1 = x3 ∧ Fr gC 6144 (ux_wI σ 12 s1.toNatClampNeg (vp_nar .boolean s0)) z.2) (fX11_fall_58 τ σ a b x3 s0 s1) := by
  unfold fX11_fall_58
  refine pt_ck (fun _ _ _ => pt_nm (fun _ e => ?_))
  subst e
  refine pt_if (fun _ => ?_) (fun _ => pt_some ⟨rfl, Fr.rf _⟩)
  exact pt_bs (pt_fr (wfX6_empty (m := 6144) rfl τ _ a (Fr.rf _))) (fun r3 σ3 h3 => pt_some ⟨rfl, h3⟩)
theorem c_fall : Pt (fun z => (z.2 = σ ∧ z.1.toInt = -1 ∧ ¬ ((0 ≤ a.toInt ∧ a.toInt < (σ.1 7 5).toInt) ∧ 0 ≤ b.toInt ∧ b.toInt ≤ 1)) ∨ (((0 ≤ a.toInt ∧ a.toInt < (σ.1 7 5).toInt) ∧ 0 ≤ b.toInt ∧ b.toInt ≤ 1) ∧ z.1 = (if σ.1 12 a.toNatClampNeg = 0 then 0 else 1) ∧ Fr gC 6144 (ux_wI σ 12 a.toNatClampNeg (vp_nar .boolean (if b = 1 then 1 else 0))) z.2)) (fX11_fall τ σ a b) := by
  have z0 := i_0
  have z1 := i_1
  have y1 := i_m1
  have k39 : ∀ s0 : Int32, Pt (fun z : Int32 × S2 => z.1 = s0 ∧ Fr gC 6144 (ux_wI σ 12 a.toNatClampNeg (vp_nar .boolean (if b = 1 then 1 else 0))) z.2) (fX11_fall_39 τ σ a b s0) := fun s0 => by
    unfold fX11_fall_39
    refine pt_if (fun c => ?_) (fun c => ?_)
    · rw [if_pos c]; exact c_fall_58
    · rw [if_neg c]; exact c_fall_58
  unfold fX11_fall fX11_fall_0
  refine pt_bi q_has (fun r hr => ?_)
  refine pt_eq (fun h => pt_some (Or.inl ⟨rfl, y1, by omega⟩)) (fun h1 => ?_)
  refine pt_lt (fun h => pt_some (Or.inl ⟨rfl, y1, by omega⟩)) (fun h2 => ?_)
  refine pt_le (fun h3 => ?_) (fun h => pt_some (Or.inl ⟨rfl, y1, by omega⟩))
  refine pt_ck (fun _ _ _ => pt_nm (fun v e => ?_))
  subst e
  refine pt_if (fun c => ?_) (fun c => ?_)
  · rw [if_pos c]; exact pt_mono (k39 0) (fun z hz => Or.inr ⟨by omega, hz⟩)
  · rw [if_neg c]; exact pt_mono (k39 1) (fun z hz => Or.inr ⟨by omega, hz⟩)
theorem m_fall_53 (n : Nat) {σ0 : S2} {x3 : Int32} : ∀ (σ : S2) (x1 x2 x4 : Int32), Fr gM 6144 σ0 σ → Pt (fun z : Int32 × S2 => z.1 = x3 ∧ Fr gM 6144 σ0 z.2) (fX12_fall_53 n σ x1 x2 x3 x4) := by
  induction n with
  | zero => intro σ x1 x2 x4 _; exact pt_none
  | succ n ih =>
    intro σ x1 x2 x4 hf
    unfold fX12_fall_53
    refine pt_if (fun _ => pt_some ⟨rfl, hf⟩) (fun _ => pt_if (fun _ => ?_) (fun _ => pt_some ⟨rfl, hf⟩))
    refine pt_ck (fun _ _ _ => pt_nm (fun _ e => ?_))
    subst e
    have hf := Fr.wI (x := 0) (k := 20) (i := ((40 * x1) + x4).toNatClampNeg) hf (show Nat.testBit 6144 11 = true from rfl)
    refine pt_ck (fun _ _ _ => pt_nm (fun _ e => ?_))
    subst e
    have hf := Fr.wI (x := 0) (k := 21) (i := ((40 * x1) + x4).toNatClampNeg) hf (show Nat.testBit 6144 12 = true from rfl)
    refine pt_ck (fun _ _ _ => pt_nm (fun _ e => ?_))
    subst e
    exact pt_nm (fun v _ => ih _ _ _ _ (Fr.wI (k := 22) hf (show Nat.testBit 6144 12 = true from rfl)))
theorem m_fall (hM : IvM 0 ρ) : Pt (fun z => (z.2 = ρ ∧ z.1.toInt = -1 ∧ ¬ ((0 ≤ a.toInt ∧ a.toInt < (ρ.1 0 3).toInt) ∧ 0 ≤ b.toInt ∧ b.toInt ≤ 1)) ∨ (((0 ≤ a.toInt ∧ a.toInt < (ρ.1 0 3).toInt) ∧ 0 ≤ b.toInt ∧ b.toInt ≤ 1) ∧ z.1 = (if ρ.1 7 a.toNatClampNeg = 0 then 0 else 1) ∧ Fr gM 6144 (ux_wI ρ 7 a.toNatClampNeg (vp_nar .boolean (if b = 1 then 1 else 0))) z.2)) (fX12_fall ρ a b) := by
  have z0 := i_0
  have z1 := i_1
  have y1 := i_m1
  have k49 : ∀ s0 x3 : Int32, Pt (fun z : Int32 × S2 => z.1 = x3 ∧ Fr gM 6144 (ux_wI ρ 7 a.toNatClampNeg (vp_nar .boolean s0)) z.2) (fX12_fall_49 ρ a b x3 s0 a) := fun s0 x3 => by
    unfold fX12_fall_49
    refine pt_ck (fun _ _ _ => pt_nm (fun _ e => ?_))
    subst e
    exact m_fall_53 FU _ _ _ _ (Fr.rf _)
  have k33 : ∀ s0 : Int32, Pt (fun z : Int32 × S2 => z.1 = s0 ∧ Fr gM 6144 (ux_wI ρ 7 a.toNatClampNeg (vp_nar .boolean (if b = 1 then 1 else 0))) z.2) (fX12_fall_33 ρ a b s0) := fun s0 => by
    unfold fX12_fall_33
    refine pt_if (fun c => ?_) (fun c => ?_)
    · rw [if_pos c]; exact k49 _ _
    · rw [if_neg c]; exact k49 _ _
  unfold fX12_fall fX12_fall_0
  refine pt_bi (q_keeperM hM) (fun r hr => ?_)
  refine pt_eq (fun h => pt_some (Or.inl ⟨rfl, y1, by omega⟩)) (fun h1 => ?_)
  refine pt_bi q_in (fun r2 hr2 => ?_)
  refine pt_eq (fun h => pt_some (Or.inl ⟨rfl, y1, by omega⟩)) (fun h2 => ?_)
  refine pt_ck (fun _ _ _ => pt_nm (fun v e => ?_))
  subst e
  refine pt_if (fun c => ?_) (fun c => ?_)
  · rw [if_pos c]; exact pt_mono (k33 0) (fun z hz => Or.inr ⟨by omega, hz⟩)
  · rw [if_neg c]; exact pt_mono (k33 1) (fun z hz => Or.inr ⟨by omega, hz⟩)
end KEEPERS
section STEPS
variable {σ ρ σ' ρ' : S2} {τ : Nat} {a b r q : Int32}
theorem st_strength (hR : RelA σ ρ) (hM : IvM 0 ρ) (h : fX11_strength τ σ a b = some (r, σ')) (h2 : fX12_strength ρ a b = some (q, ρ')) : r = q ∧ RelA σ' ρ' := by
  have p1 := c_strength (a := a) (b := b) _ h
  have p2 := m_strength (a := a) (b := b) hM _ h2
  obtain ⟨⟨k1, k2, k3, k4, k5⟩, hF, hA, hS, hE⟩ := hR
  have fc := wfX11_strength (m := 64) rfl τ σ a b (Fr.rf σ) _ h
  have fm := wfX12_strength (m := 64) rfl ρ a b (Fr.rf ρ) _ h2
  rw [k1] at p2
  rcases p1 with ⟨e, p1, p3⟩ | ⟨g, e, e2⟩ <;> rcases p2 with ⟨d, p2, p4⟩ | ⟨f, d, d2⟩
  · have e : σ' = σ := e
    have d : ρ' = ρ := d
    subst e; subst d
    exact ⟨Int32.toInt_inj.mp (Eq.trans p1 (Eq.symm p2)), ⟨k1, k2, k3, k4, k5⟩, hF, hA, hS, hE⟩
  · exfalso; exact p3 f
  · exfalso; exact p4 g
  · have e2 : σ' = _ := e2
    have d2 : ρ' = _ := d2
    refine ⟨Eq.trans e (Eq.trans (k5 _).symm (Eq.symm d)), ⟨?_, fun i => ?_, fun i hi => ?_, fun i => ?_, fun i => ?_⟩, hF.fr fc fm rfl rfl, hA.fr fc fm rfl rfl, hS.fr fc fm rfl rfl (by rw [(fc 7 5 rfl).1]; exact Int.le_refl _), hE.fr fc fm rfl rfl⟩
    · rw [(fc 7 5 rfl).1, (fm 0 3 rfl).1]; exact k1
    · rw [(fc.at 8 i 4 rfl rfl), (fm.at 5 i 4 rfl rfl)]; exact k2 i
    · rw [(fc.at 8 i 4 rfl rfl)]; rw [(fc 7 5 rfl).1] at hi; exact k3 i hi
    · rw [(fc.at 9 i 5 rfl rfl), (fm.at 3 i 5 rfl rfl)]; exact k4 i
    · rw [e2, d2]
      show (if i = a.toNatClampNeg then b else ρ.1 4 i) = (if i = a.toNatClampNeg then b else σ.1 10 i)
      rw [k5 i]
theorem st_become (hR : RelA σ ρ) (hM : IvM 0 ρ) (h : fX11_become τ σ a b = some (r, σ')) (h2 : fX12_become ρ a b = some (q, ρ')) : r = q ∧ RelA σ' ρ' := by
  have p1 := c_become (a := a) (b := b) _ h
  have p2 := m_become (a := a) (b := b) hM _ h2
  obtain ⟨⟨k1, k2, k3, k4, k5⟩, hF, hA, hS, hE⟩ := hR
  have fc := wfX11_become (m := 6160) rfl τ σ a b (Fr.rf σ) _ h
  have fm := wfX12_become (m := 6160) rfl ρ a b (Fr.rf ρ) _ h2
  rw [k1] at p2
  rcases p1 with ⟨e, p1, p3⟩ | ⟨g, e, e2⟩ <;> rcases p2 with ⟨d, p2, p4⟩ | ⟨f, d, d2⟩
  · have e : σ' = σ := e
    have d : ρ' = ρ := d
    subst e; subst d
    exact ⟨Int32.toInt_inj.mp (Eq.trans p1 (Eq.symm p2)), ⟨k1, k2, k3, k4, k5⟩, hF, hA, hS, hE⟩
  · exfalso; exact p3 f
  · exfalso; exact p4 g
  · have e8 : ∀ i : Nat, σ'.1 8 i = if i = a.toNatClampNeg then b else σ.1 8 i := fun i => Fr.at e2 8 i 4 rfl rfl
    have d5 : ∀ i : Nat, ρ'.1 5 i = if i = a.toNatClampNeg then b else ρ.1 5 i := fun i => Fr.at d2 5 i 4 rfl rfl
    have n1 := i32_nat g.1.1
    refine ⟨Eq.trans e (Eq.trans (k2 _).symm (Eq.symm d)), ⟨?_, fun i => ?_, fun i hi => ?_, fun i => ?_, fun i => ?_⟩, hF.fr fc fm rfl rfl, hA.fr fc fm rfl rfl, hS.fr fc fm rfl rfl (by rw [(fc 7 5 rfl).1]; exact Int.le_refl _), hE.fr fc fm rfl rfl⟩
    · rw [(fc 7 5 rfl).1, (fm 0 3 rfl).1]; exact k1
    · rw [e8 i, d5 i, k2 i]
    · rw [(fc 7 5 rfl).1] at hi
      rw [e8 i, if_neg (by omega)]; exact k3 i hi
    · rw [(fc.at 9 i 5 rfl rfl), (fm.at 3 i 5 rfl rfl)]; exact k4 i
    · rw [(fc.at 10 i 6 rfl rfl), (fm.at 4 i 6 rfl rfl)]; exact k5 i
theorem st_fall (hR : RelA σ ρ) (hM : IvM 0 ρ) (h : fX11_fall τ σ a b = some (r, σ')) (h2 : fX12_fall ρ a b = some (q, ρ')) : r = q ∧ RelA σ' ρ' := by
  have p1 := c_fall (a := a) (b := b) _ h
  have p2 := m_fall (a := a) (b := b) hM _ h2
  obtain ⟨hk, hF, hA, hS, hE⟩ := hR
  have fc := wfX11_fall (m := 6400) rfl τ σ a b (Fr.rf σ) _ h
  have fm := wfX12_fall (m := 6400) rfl ρ a b (Fr.rf ρ) _ h2
  rw [hk.1] at p2
  rcases p1 with ⟨e, p1, p3⟩ | ⟨g, e, e2⟩ <;> rcases p2 with ⟨d, p2, p4⟩ | ⟨f, d, d2⟩
  · have e : σ' = σ := e
    have d : ρ' = ρ := d
    subst e; subst d
    exact ⟨Int32.toInt_inj.mp (Eq.trans p1 (Eq.symm p2)), hk, hF, hA, hS, hE⟩
  · exfalso; exact p3 f
  · exfalso; exact p4 g
  · refine ⟨?_, hk.fr fc fm rfl rfl rfl rfl rfl rfl rfl rfl, fun i => ?_, hA.fr fc fm rfl rfl, hS.fr fc fm rfl rfl (by rw [(fc 7 5 rfl).1]; exact Int.le_refl _), hE.fr fc fm rfl rfl⟩
    · have e : r = _ := e
      have d : q = _ := d
      rw [e, d, hF]
    · have e8 : σ'.1 12 i = if i = a.toNatClampNeg then _ else σ.1 12 i := Fr.at e2 12 i 8 rfl rfl
      have d5 : ρ'.1 7 i = if i = a.toNatClampNeg then _ else ρ.1 7 i := Fr.at d2 7 i 8 rfl rfl
      rw [e8, d5, hF i]
end STEPS
end
section
/-! acts: both sides begin the same bodies -/
noncomputable def RT (r : Int32) (σ ρ : S2) : Prop := RA σ ρ ∧ σ.1 35 2 = ρ.1 5 r.toNatClampNeg ∧ σ.1 35 3 = r ∧ σ.1 35 4 = ρ.1 4 r.toNatClampNeg
theorem rt_begin {r x : Int32} {τ : Nat} {σ ρ σ' ρ' : S2} {u u2 : Unit} (hR : RT r σ ρ) (h : fX0_begin τ σ x = some (u, σ')) (h2 : fX12_begins ρ x = some (u2, ρ')) : RT r σ' ρ' := by
  have fc := wfX0_begin (m := 1048576) rfl τ σ x (Fr.rf σ) _ h
  have fm := wfX12_begins (m := 1048576) rfl ρ x (Fr.rf ρ) _ h2
  refine ⟨?_, by rw [(fc 35 2 rfl).1, (fm.at 5 _ 4 rfl rfl)]; exact hR.2.1, by rw [(fc 35 3 rfl).1]; exact hR.2.2.1, by rw [(fc 35 4 rfl).1, (fm.at 4 _ 6 rfl rfl)]; exact hR.2.2.2⟩
  obtain ⟨q1, q2⟩ := hR.1
  unfold fX0_begin fX0_begin_0 fX0_begin_19 at h
  unfold fX12_begins fX12_begins_0 fX12_begins_19 at h2
  rw [q1] at h2
  by_cases c : 24 ≤ σ.1 35 1
  · rw [if_pos c] at h h2
    have h : some ((), ux_wI σ 35 1 (σ.1 35 1 + 1)) = some (u, σ') := h
    have h2 : some ((), ux_wI ρ 0 38 (σ.1 35 1 + 1)) = some (u2, ρ') := h2
    cases h; cases h2
    exact ⟨rfl, fun i => q2 i⟩
  · rw [if_neg c] at h h2
    obtain ⟨_, h⟩ := ckS h
    obtain ⟨_, h2⟩ := ckS h2
    have h : some ((), ux_wI (ux_wI σ 36 (σ.1 35 1).toNatClampNeg x) 35 1 (σ.1 35 1 + 1)) = some (u, σ') := h
    have h2 : some ((), ux_wI (ux_wI ρ 29 (σ.1 35 1).toNatClampNeg x) 0 38 (ρ.1 0 38 + 1)) = some (u2, ρ') := h2
    cases h; cases h2
    refine ⟨?_, fun i => ?_⟩
    · show ρ.1 0 38 + 1 = σ.1 35 1 + 1
      rw [q1]
    · show (if i = (σ.1 35 1).toNatClampNeg then x else ρ.1 29 i) = (if i = (σ.1 35 1).toNatClampNeg then x else σ.1 36 i)
      rw [q2 i]
theorem cN {o : Option (Int32 × S2)} {z : Int32 × S2} (h : o = some z) (e : o = none) : False := by rw [e] at h; cases h
theorem ab_0 {ρ : S2} {k x : Int32} (hk : k ≠ 6) (h : fX12_aboveOf ρ k = some x) : x = 0 := by
  unfold fX12_aboveOf fX12_aboveOf_0 at h
  rw [if_neg hk] at h
  cases h; rfl
theorem rt_finds {r : Int32} {τ : Nat} : ∀ (e d j j' : Nat) (σ ρ σ' ρ' : S2) (k x v w : Int32), RT r σ ρ → GX0_findsFrom τ d j σ k x = some (v, σ') → GX12_findsFrom e j' ρ r k x = some (w, ρ') → v = w ∧ RT r σ' ρ' := by
  intro e
  induction e with
  | zero => intro d j j' σ ρ σ' ρ' k x v w hR h h2; exact (cN h2 rfl).elim
  | succ e ih =>
    intro d j j' σ ρ σ' ρ' k x v w hR h h2
    cases d with
    | zero => exact (cN h rfl).elim
    | succ d =>
      have dn : ∀ k : Int32, GX0_findsFrom τ (d + 1) j σ k x = fX0_findsFrom_0 τ (GX0_findsFrom τ d 0) σ k x := fun k => rfl
      have h2 : fX12_findsFrom_0 (GX12_findsFrom e 0) ρ r k x = some (w, ρ') := h2
      have up : ∀ k9 : Int32, k ≠ 6 → k ≠ 1 → k ≠ 5 → bi (fX12_aboveOf ρ k) (fun r14 => bs (GX12_findsFrom e 0 ρ r r14 x) (fun r16 σ17 => some (r16, σ17))) = some (w, ρ') → v = w ∧ RT r σ' ρ' := fun _ n6 n1 n5 h2 => by
        obtain ⟨r14, e14, h2⟩ := biS h2
        have e14 := ab_0 n6 e14
        subst e14
        obtain ⟨r1, s1, b1, h2⟩ := bsS h2
        cases h2
        refine ih (d + 1) j 0 σ ρ σ' _ 0 x v _ hR ?_ b1
        rw [dn] at h ⊢
        unfold fX0_findsFrom_0 at h ⊢
        rw [if_neg n1, if_neg n5, if_neg n6] at h
        rw [if_neg (by decide), if_neg (by decide), if_neg (by decide)]
        exact h
      have hC : fX0_findsFrom_0 τ (GX0_findsFrom τ d 0) σ k x = some (v, σ') := h
      unfold fX0_findsFrom_0 at hC
      unfold fX12_findsFrom_0 at h2
      by_cases k0 : k = 0
      · subst k0
        rw [if_pos rfl] at h2
        rw [if_neg (by decide), if_neg (by decide), if_neg (by decide)] at hC
        obtain ⟨_, s1, b1, hC⟩ := bsS hC
        obtain ⟨_, s2, b2, h2⟩ := bsS h2
        have hR := rt_begin hR b1 b2
        cases hC; cases h2
        exact ⟨by rw [hR.2.2.1], hR⟩
      rw [if_neg k0] at h2
      by_cases k1 : k = 1
      · subst k1
        rw [if_pos rfl] at h2 hC
        obtain ⟨_, s1, b1, hC⟩ := bsS hC
        obtain ⟨_, s2, b2, h2⟩ := bsS h2
        have hR := rt_begin hR b1 b2
        obtain ⟨v1, s3, b3, hC⟩ := bsS hC
        obtain ⟨v2, s4, b4, h2⟩ := bsS h2
        obtain ⟨ev, hR⟩ := ih _ _ _ _ _ _ _ _ _ _ _ hR b3 b4
        obtain ⟨_, h2⟩ := ckS h2
        have h2 : some (v2 + s4.1 4 r.toNatClampNeg, s4) = some (w, ρ') := h2
        cases hC; cases h2
        exact ⟨by rw [ev, hR.2.2.2], hR⟩
      rw [if_neg k1] at h2 hC
      by_cases k2 : k = 2
      · rw [if_pos k2] at h2
        exact up 0 (by rw [k2]; decide) k1 (by rw [k2]; decide) h2
      rw [if_neg k2] at h2
      by_cases k3 : k = 3
      · rw [if_pos k3] at h2
        exact up 0 (by rw [k3]; decide) k1 (by rw [k3]; decide) h2
      rw [if_neg k3] at h2
      by_cases k4 : k = 4
      · rw [if_pos k4] at h2
        exact up 0 (by rw [k4]; decide) k1 (by rw [k4]; decide) h2
      rw [if_neg k4] at h2
      by_cases k5 : k = 5
      · subst k5
        rw [if_pos rfl] at h2 hC
        obtain ⟨_, s1, b1, hC⟩ := bsS hC
        obtain ⟨_, s2, b2, h2⟩ := bsS h2
        have hR := rt_begin hR b1 b2
        obtain ⟨v1, s3, b3, hC⟩ := bsS hC
        obtain ⟨v2, s4, b4, h2⟩ := bsS h2
        obtain ⟨ev, hR⟩ := ih _ _ _ _ _ _ _ _ _ _ _ hR b3 b4
        cases hC; cases h2
        exact ⟨ev, hR⟩
      rw [if_neg k5] at h2 hC
      by_cases k6 : k = 6
      · subst k6
        rw [if_pos rfl] at h2 hC
        obtain ⟨_, s1, b1, hC⟩ := bsS hC
        obtain ⟨_, s2, b2, h2⟩ := bsS h2
        have hR := rt_begin hR b1 b2
        obtain ⟨v1, s3, b3, hC⟩ := bsS hC
        obtain ⟨v2, s4, b4, h2⟩ := bsS h2
        obtain ⟨ev, hR⟩ := ih _ _ _ _ _ _ _ _ _ _ _ hR b3 b4
        cases hC; cases h2
        exact ⟨by rw [ev], hR⟩
      rw [if_neg k6] at h2
      exact up 0 k6 k1 k5 h2
theorem rt_finds' {r : Int32} {τ : Nat} {σ ρ σ' ρ' : S2} {k x v w : Int32} (hR : RT r σ ρ) (h : fX0_findsFrom τ σ k x = some (v, σ')) (h2 : fX12_findsFrom ρ r k x = some (w, ρ')) : v = w ∧ RT r σ' ρ' := rt_finds 24 24 0 0 σ ρ σ' ρ' k x v w hR h h2
theorem rt_moves {r : Int32} {τ : Nat} : ∀ (e d j j' : Nat) (σ ρ σ' ρ' : S2) (k x v w : Int32), RT r σ ρ → GX0_movesFrom τ d j σ k x = some (v, σ') → GX12_movesFrom e j' ρ r k x = some (w, ρ') → v = w ∧ RT r σ' ρ' := by
  intro e
  induction e with
  | zero => intro d j j' σ ρ σ' ρ' k x v w hR h h2; exact (cN h2 rfl).elim
  | succ e ih =>
    intro d j j' σ ρ σ' ρ' k x v w hR h h2
    cases d with
    | zero => exact (cN h rfl).elim
    | succ d =>
      have dn : ∀ k : Int32, GX0_movesFrom τ (d + 1) j σ k x = fX0_movesFrom_0 τ (GX0_movesFrom τ d 0) σ k x := fun k => rfl
      have h2 : fX12_movesFrom_0 (GX12_movesFrom e 0) ρ r k x = some (w, ρ') := h2
      have hC : fX0_movesFrom_0 τ (GX0_movesFrom τ d 0) σ k x = some (v, σ') := h
      unfold fX0_movesFrom_0 at hC
      unfold fX12_movesFrom_0 at h2
      by_cases k0 : k = 0
      · subst k0
        rw [if_pos rfl] at h2
        rw [if_neg (by decide), if_neg (by decide)] at hC
        obtain ⟨_, s1, b1, hC⟩ := bsS hC
        obtain ⟨_, s2, b2, h2⟩ := bsS h2
        have hR := rt_begin hR b1 b2
        cases hC; cases h2
        exact ⟨by rw [hR.2.2.1], hR⟩
      rw [if_neg k0] at h2
      by_cases k2 : k = 2
      · subst k2
        rw [if_pos rfl] at h2 hC
        obtain ⟨_, s1, b1, hC⟩ := bsS hC
        obtain ⟨_, s2, b2, h2⟩ := bsS h2
        have hR := rt_begin hR b1 b2
        obtain ⟨v1, s3, b3, hC⟩ := bsS hC
        obtain ⟨v2, s4, b4, h2⟩ := bsS h2
        obtain ⟨ev, hR⟩ := ih _ _ _ _ _ _ _ _ _ _ _ hR b3 b4
        cases hC; cases h2
        exact ⟨by rw [ev], hR⟩
      rw [if_neg k2] at h2 hC
      by_cases k5 : k = 5
      · subst k5
        rw [if_pos rfl] at h2 hC
        obtain ⟨_, s1, b1, hC⟩ := bsS hC
        obtain ⟨_, s2, b2, h2⟩ := bsS h2
        have hR := rt_begin hR b1 b2
        obtain ⟨v1, s3, b3, hC⟩ := bsS hC
        obtain ⟨v2, s4, b4, h2⟩ := bsS h2
        obtain ⟨ev, hR⟩ := ih _ _ _ _ _ _ _ _ _ _ _ hR b3 b4
        obtain ⟨_, h2⟩ := ckS h2
        have h2 : bs (fX12_findsFrom s4 r (s4.1 5 r.toNatClampNeg) 2) (fun r20 σ21 => some (v2 - r20, σ21)) = some (w, ρ') := h2
        rw [hR.2.1] at hC
        obtain ⟨v3, s5, b5, hC⟩ := bsS hC
        obtain ⟨v4, s6, b6, h2⟩ := bsS h2
        obtain ⟨ev2, hR⟩ := rt_finds' hR b5 b6
        cases hC; cases h2
        exact ⟨by rw [ev, ev2], hR⟩
      rw [if_neg k5] at h2 hC
      obtain ⟨r14, e14, h2⟩ := biS h2
      by_cases k6 : k = 6
      · subst k6
        unfold fX12_aboveOf fX12_aboveOf_0 at e14
        rw [if_pos rfl] at e14
        cases e14
        obtain ⟨r1, s1, b1, h2⟩ := bsS h2
        cases h2
        refine ih (d + 1) j 0 σ ρ σ' _ 1 x v _ hR ?_ b1
        rw [dn]
        unfold fX0_movesFrom_0
        rw [if_neg (by decide), if_neg (by decide)]
        exact hC
      · have e14 := ab_0 k6 e14
        subst e14
        obtain ⟨r1, s1, b1, h2⟩ := bsS h2
        cases h2
        refine ih (d + 1) j 0 σ ρ σ' _ 0 x v _ hR ?_ b1
        rw [dn]
        unfold fX0_movesFrom_0
        rw [if_neg (by decide), if_neg (by decide)]
        exact hC
theorem rt_moves' {r : Int32} {τ : Nat} {σ ρ σ' ρ' : S2} {k x v w : Int32} (hR : RT r σ ρ) (h : fX0_movesFrom τ σ k x = some (v, σ')) (h2 : fX12_movesFrom ρ r k x = some (w, ρ')) : v = w ∧ RT r σ' ρ' := rt_moves 24 24 0 0 σ ρ σ' ρ' k x v w hR h h2
theorem rt_keeps {r : Int32} {τ : Nat} : ∀ (e d j j' : Nat) (σ ρ σ' ρ' : S2) (k x v w : Int32), RT r σ ρ → GX0_keepsFrom τ d j σ k x = some (v, σ') → GX12_keepsFrom e j' ρ r k x = some (w, ρ') → v = w ∧ RT r σ' ρ' := by
  intro e
  induction e with
  | zero => intro d j j' σ ρ σ' ρ' k x v w hR h h2; exact (cN h2 rfl).elim
  | succ e ih =>
    intro d j j' σ ρ σ' ρ' k x v w hR h h2
    cases d with
    | zero => exact (cN h rfl).elim
    | succ d =>
      have dn : ∀ k : Int32, GX0_keepsFrom τ (d + 1) j σ k x = fX0_keepsFrom_0 τ (GX0_keepsFrom τ d 0) σ k x := fun k => rfl
      have h2 : fX12_keepsFrom_0 (GX12_keepsFrom e 0) ρ r k x = some (w, ρ') := h2
      have hC : fX0_keepsFrom_0 τ (GX0_keepsFrom τ d 0) σ k x = some (v, σ') := h
      unfold fX0_keepsFrom_0 at hC
      unfold fX12_keepsFrom_0 at h2
      by_cases k0 : k = 0
      · subst k0
        rw [if_pos rfl] at h2
        rw [if_neg (by decide), if_neg (by decide)] at hC
        obtain ⟨_, s1, b1, hC⟩ := bsS hC
        obtain ⟨_, s2, b2, h2⟩ := bsS h2
        have hR := rt_begin hR b1 b2
        obtain ⟨_, h2⟩ := ckS h2
        have h2 : bs (fX12_findsFrom s2 r (s2.1 5 r.toNatClampNeg) x) (fun r20 σ21 => some (r20 * 2, σ21)) = some (w, ρ') := h2
        rw [hR.2.1] at hC
        obtain ⟨v3, s5, b5, hC⟩ := bsS hC
        obtain ⟨v4, s6, b6, h2⟩ := bsS h2
        obtain ⟨ev2, hR⟩ := rt_finds' hR b5 b6
        cases hC; cases h2
        exact ⟨by rw [ev2], hR⟩
      rw [if_neg k0] at h2
      by_cases k3 : k = 3
      · subst k3
        rw [if_pos rfl] at h2 hC
        obtain ⟨_, s1, b1, hC⟩ := bsS hC
        obtain ⟨_, s2, b2, h2⟩ := bsS h2
        have hR := rt_begin hR b1 b2
        obtain ⟨v1, s3, b3, hC⟩ := bsS hC
        obtain ⟨v2, s4, b4, h2⟩ := bsS h2
        obtain ⟨ev, hR⟩ := ih _ _ _ _ _ _ _ _ _ _ _ hR b3 b4
        cases hC; cases h2
        exact ⟨by rw [ev], hR⟩
      rw [if_neg k3] at h2 hC
      by_cases k6 : k = 6
      · subst k6
        rw [if_pos rfl] at h2 hC
        obtain ⟨_, s1, b1, hC⟩ := bsS hC
        obtain ⟨_, s2, b2, h2⟩ := bsS h2
        have hR := rt_begin hR b1 b2
        obtain ⟨v1, s3, b3, hC⟩ := bsS hC
        obtain ⟨v2, s4, b4, h2⟩ := bsS h2
        obtain ⟨ev, hR⟩ := ih _ _ _ _ _ _ _ _ _ _ _ hR b3 b4
        obtain ⟨v3, s5, b5, hC⟩ := bsS hC
        obtain ⟨v4, s6, b6, h2⟩ := bsS h2
        obtain ⟨ev2, hR⟩ := rt_moves' hR b5 b6
        cases hC; cases h2
        exact ⟨by rw [ev, ev2], hR⟩
      rw [if_neg k6] at h2 hC
      obtain ⟨r14, e14, h2⟩ := biS h2
      have e14 := ab_0 k6 e14
      subst e14
      obtain ⟨r1, s1, b1, h2⟩ := bsS h2
      cases h2
      refine ih (d + 1) j 0 σ ρ σ' _ 0 x v _ hR ?_ b1
      rw [dn]
      unfold fX0_keepsFrom_0
      rw [if_neg (by decide), if_neg (by decide)]
      exact hC
theorem rt_keeps' {r : Int32} {τ : Nat} {σ ρ σ' ρ' : S2} {k x v w : Int32} (hR : RT r σ ρ) (h : fX0_keepsFrom τ σ k x = some (v, σ')) (h2 : fX12_keepsFrom ρ r k x = some (w, ρ')) : v = w ∧ RT r σ' ρ' := rt_keeps 24 24 0 0 σ ρ σ' ρ' k x v w hR h h2
theorem rt_tells {r : Int32} {τ : Nat} : ∀ (e d j j' : Nat) (σ ρ σ' ρ' : S2) (k x v w : Int32), RT r σ ρ → GX0_tellsFrom τ d j σ k x = some (v, σ') → GX12_tellsFrom e j' ρ r k x = some (w, ρ') → v = w ∧ RT r σ' ρ' := by
  intro e
  induction e with
  | zero => intro d j j' σ ρ σ' ρ' k x v w hR h h2; exact (cN h2 rfl).elim
  | succ e ih =>
    intro d j j' σ ρ σ' ρ' k x v w hR h h2
    cases d with
    | zero => exact (cN h rfl).elim
    | succ d =>
      have dn : ∀ k : Int32, GX0_tellsFrom τ (d + 1) j σ k x = fX0_tellsFrom_0 τ (GX0_tellsFrom τ d 0) σ k x := fun k => rfl
      have h2 : fX12_tellsFrom_0 (GX12_tellsFrom e 0) ρ r k x = some (w, ρ') := h2
      have hC : fX0_tellsFrom_0 τ (GX0_tellsFrom τ d 0) σ k x = some (v, σ') := h
      unfold fX0_tellsFrom_0 at hC
      unfold fX12_tellsFrom_0 at h2
      by_cases k0 : k = 0
      · subst k0
        rw [if_pos rfl] at h2
        rw [if_neg (by decide)] at hC
        obtain ⟨_, s1, b1, hC⟩ := bsS hC
        obtain ⟨_, s2, b2, h2⟩ := bsS h2
        have hR := rt_begin hR b1 b2
        obtain ⟨_, h2⟩ := ckS h2
        have h2 : bs (fX12_keepsFrom s2 r (s2.1 5 r.toNatClampNeg) x) (fun r6 σ7 => ck 12 r (nm (σ7.1 5 (Int32.toNatClampNeg r)) (fun v9 => bs (fX12_movesFrom σ7 r v9 1) (fun r10 σ11 => some (r6 - r10, σ11))))) = some (w, ρ') := h2
        rw [hR.2.1] at hC
        obtain ⟨v1, s3, b3, hC⟩ := bsS hC
        obtain ⟨v2, s4, b4, h2⟩ := bsS h2
        obtain ⟨ev, hR⟩ := rt_keeps' hR b3 b4
        obtain ⟨_, h2⟩ := ckS h2
        have h2 : bs (fX12_movesFrom s4 r (s4.1 5 r.toNatClampNeg) 1) (fun r20 σ21 => some (v2 - r20, σ21)) = some (w, ρ') := h2
        rw [hR.2.1] at hC
        obtain ⟨v3, s5, b5, hC⟩ := bsS hC
        obtain ⟨v4, s6, b6, h2⟩ := bsS h2
        obtain ⟨ev2, hR⟩ := rt_moves' hR b5 b6
        cases hC; cases h2
        exact ⟨by rw [ev, ev2], hR⟩
      rw [if_neg k0] at h2
      by_cases k4 : k = 4
      · subst k4
        rw [if_pos rfl] at h2 hC
        obtain ⟨_, s1, b1, hC⟩ := bsS hC
        obtain ⟨_, s2, b2, h2⟩ := bsS h2
        have hR := rt_begin hR b1 b2
        obtain ⟨v1, s3, b3, hC⟩ := bsS hC
        obtain ⟨v2, s4, b4, h2⟩ := bsS h2
        obtain ⟨ev, hR⟩ := ih _ _ _ _ _ _ _ _ _ _ _ hR b3 b4
        cases hC; cases h2
        exact ⟨by rw [ev], hR⟩
      rw [if_neg k4] at h2 hC
      obtain ⟨r14, e14, h2⟩ := biS h2
      by_cases k6 : k = 6
      · subst k6
        unfold fX12_aboveOf fX12_aboveOf_0 at e14
        rw [if_pos rfl] at e14
        cases e14
        obtain ⟨r1, s1, b1, h2⟩ := bsS h2
        cases h2
        refine ih (d + 1) j 0 σ ρ σ' _ 1 x v _ hR ?_ b1
        rw [dn]
        unfold fX0_tellsFrom_0
        rw [if_neg (by decide)]
        exact hC
      · have e14 := ab_0 k6 e14
        subst e14
        obtain ⟨r1, s1, b1, h2⟩ := bsS h2
        cases h2
        refine ih (d + 1) j 0 σ ρ σ' _ 0 x v _ hR ?_ b1
        rw [dn]
        unfold fX0_tellsFrom_0
        rw [if_neg (by decide)]
        exact hC
theorem rt_tells' {r : Int32} {τ : Nat} {σ ρ σ' ρ' : S2} {k x v w : Int32} (hR : RT r σ ρ) (h : fX0_tellsFrom τ σ k x = some (v, σ')) (h2 : fX12_tellsFrom ρ r k x = some (w, ρ')) : v = w ∧ RT r σ' ρ' := rt_tells 24 24 0 0 σ ρ σ' ρ' k x v w hR h h2
theorem st_act {σ ρ σ' ρ' : S2} {τ : Nat} {a b x r q : Int32} (hR : RelA σ ρ) (hM : IvM 0 ρ) (h : fX11_act τ σ a b x = some (r, σ')) (h2 : fX12_act ρ a b x = some (q, ρ')) : r = q ∧ RelA σ' ρ' := by
  have z0 := i_0
  have z1 := i_1
  have z3 : (3 : Int32).toInt = 3 := rfl
  have fc := wfX11_act (m := 1048577) rfl τ σ a b x (Fr.rf σ) _ h
  have fm := wfX12_act (m := 1048576) rfl ρ a b x (Fr.rf ρ) _ h2
  obtain ⟨hk, hF, hA, hS, hE⟩ := hR
  suffices hs : r = q ∧ RA σ' ρ' from ⟨hs.1, hk.fr fc fm rfl rfl rfl rfl rfl rfl rfl rfl, hF.fr fc fm rfl rfl, hs.2, hS.fr fc fm rfl rfl (by rw [(fc 7 5 rfl).1]; exact Int.le_refl _), hE.fr fc fm rfl rfl⟩
  unfold fX11_act fX11_act_0 at h
  unfold fX12_act fX12_act_0 at h2
  have h : bi (fX2_has τ (ux_wI σ 35 1 0) a) _ = some (r, σ') := h
  have h2 : bi (fX12_isKeeper (ux_wI ρ 0 38 0) a) _ = some (q, ρ') := h2
  have b0 : 0 ≤ (ρ.1 0 3).toInt ∧ (ρ.1 0 3).toInt ≤ 12 := hM.1 0 3
  have hA0 : RA (ux_wI σ 35 1 0) (ux_wI ρ 0 38 0) := ⟨rfl, fun i => hA.2 i⟩
  obtain ⟨r1, e1, h⟩ := biS h
  obtain ⟨r2, e2, h2⟩ := biS h2
  have e1 : (r1.toInt = 0 ∧ ¬ (0 ≤ a.toInt ∧ a.toInt < (σ.1 7 5).toInt)) ∨ (r1.toInt = 1 ∧ 0 ≤ a.toInt ∧ a.toInt < (σ.1 7 5).toInt) := q_has (τ := τ) (σ := ux_wI σ 35 1 0) _ e1
  have e2 : (r2.toInt = 0 ∧ ¬ (0 ≤ a.toInt ∧ a.toInt < (ρ.1 0 3).toInt)) ∨ (r2.toInt = 1 ∧ 0 ≤ a.toInt ∧ a.toInt < (ρ.1 0 3).toInt) := q_keeperB (ρ := ux_wI ρ 0 38 0) b0 _ e2
  rw [hk.1] at e2
  by_cases c1 : r1 = 0
  · have c1' : r1.toInt = 0 := by rw [c1]; rfl
    have c2 : r2 = 0 := Int32.toInt_inj.mp (by rw [z0]; omega)
    rw [if_pos c1] at h
    rw [if_pos c2] at h2
    cases h; cases h2
    exact ⟨rfl, hA0⟩
  · have c1' : r1.toInt ≠ 0 := fun q => c1 (Int32.toInt_inj.mp q)
    have c2 : ¬ r2 = 0 := fun q => by have : r2.toInt = 0 := by rw [q]; rfl
                                      omega
    rw [if_neg c1] at h
    rw [if_neg c2] at h2
    obtain ⟨_, h⟩ := ckS h
    have h : ck 12 a (nm (σ.1 8 a.toNatClampNeg) (fun v5 => bs (fX0_run τ (ux_wI σ 35 1 0) a (σ.1 10 a.toNatClampNeg) v5 b x) (fun r6 σ7 => some (r6, σ7)))) = some (r, σ') := h
    obtain ⟨_, h⟩ := ckS h
    have h : bs (fX0_run τ (ux_wI σ 35 1 0) a (σ.1 10 a.toNatClampNeg) (σ.1 8 a.toNatClampNeg) b x) (fun r6 σ7 => some (r6, σ7)) = some (r, σ') := h
    obtain ⟨r3, s3, h3, h⟩ := bsS h
    cases h
    obtain ⟨r4, e4, h2⟩ := biS h2
    have e4 := q_in _ e4
    unfold fX0_run fX0_run_0 at h3
    have hT : RT a (ux_wI (ux_wI (ux_wI (ux_wI σ 35 1 0) 35 3 a) 35 4 (σ.1 10 a.toNatClampNeg)) 35 2 (σ.1 8 a.toNatClampNeg)) (ux_wI ρ 0 38 0) := ⟨⟨rfl, fun i => hA.2 i⟩, (hk.2.1 _).symm, rfl, (hk.2.2.2.2 _).symm⟩
    generalize hsx : ux_wI (ux_wI (ux_wI (ux_wI σ 35 1 0) 35 3 a) 35 4 (σ.1 10 a.toNatClampNeg)) 35 2 (σ.1 8 a.toNatClampNeg) = sx at hT
    have ex : sx.1 35 2 = ρ.1 5 a.toNatClampNeg := hT.2.1
    have h3 : (if b = 0 then bs (fX0_findsFrom τ sx (sx.1 35 2) x) (fun r5 σ6 => some (r5, σ6)) else if b = 1 then bs (fX0_keepsFrom τ sx (sx.1 35 2) x) (fun r9 σ10 => some (r9, σ10)) else if b = 2 then bs (fX0_movesFrom τ sx (sx.1 35 2) x) (fun r13 σ14 => some (r13, σ14)) else if b = 3 then bs (fX0_tellsFrom τ sx (sx.1 35 2) x) (fun r17 σ18 => some (r17, σ18)) else some (0, sx)) = some (r, σ') := by rw [← hsx]; exact h3
    rw [ex] at h3
    by_cases c4 : r4 = 0
    · have c4' : r4.toInt = 0 := by rw [c4]; rfl
      rw [if_pos c4] at h2
      cases h2
      have nb : ∀ n : Int32, 0 ≤ n.toInt → n.toInt ≤ 3 → ¬ b = n := fun n n0 n3 q => by subst q; omega
      rw [if_neg (nb 0 (by omega) (by omega)), if_neg (nb 1 (by omega) (by omega)), if_neg (nb 2 (by decide) (by decide)), if_neg (nb 3 (by decide) (by decide))] at h3
      cases h3
      exact ⟨rfl, hT.1⟩
    · have c4' : r4.toInt ≠ 0 := fun q => c4 (Int32.toInt_inj.mp q)
      rw [if_neg c4] at h2
      obtain ⟨_, h2⟩ := ckS h2
      have h2 : (if b = 0 then bs (fX12_findsFrom (ux_wI ρ 0 38 0) a (ρ.1 5 a.toNatClampNeg) x) (fun r16 σ17 => some (r16, σ17)) else if b = 1 then bs (fX12_keepsFrom (ux_wI ρ 0 38 0) a (ρ.1 5 a.toNatClampNeg) x) (fun r13 σ14 => some (r13, σ14)) else if b = 2 then bs (fX12_movesFrom (ux_wI ρ 0 38 0) a (ρ.1 5 a.toNatClampNeg) x) (fun r10 σ11 => some (r10, σ11)) else bs (fX12_tellsFrom (ux_wI ρ 0 38 0) a (ρ.1 5 a.toNatClampNeg) x) (fun r7 σ8 => some (r7, σ8))) = some (q, ρ') := h2
      by_cases b0 : b = 0
      · rw [if_pos b0] at h2 h3
        obtain ⟨v1, s5, b5, h3⟩ := bsS h3
        obtain ⟨v2, s6, b6, h2⟩ := bsS h2
        obtain ⟨ev, hR⟩ := rt_finds' hT b5 b6
        cases h3; cases h2
        exact ⟨ev, hR.1⟩
      rw [if_neg b0] at h2 h3
      by_cases b1 : b = 1
      · rw [if_pos b1] at h2 h3
        obtain ⟨v1, s5, b5, h3⟩ := bsS h3
        obtain ⟨v2, s6, b6, h2⟩ := bsS h2
        obtain ⟨ev, hR⟩ := rt_keeps' hT b5 b6
        cases h3; cases h2
        exact ⟨ev, hR.1⟩
      rw [if_neg b1] at h2 h3
      by_cases b2 : b = 2
      · rw [if_pos b2] at h2 h3
        obtain ⟨v1, s5, b5, h3⟩ := bsS h3
        obtain ⟨v2, s6, b6, h2⟩ := bsS h2
        obtain ⟨ev, hR⟩ := rt_moves' hT b5 b6
        cases h3; cases h2
        exact ⟨ev, hR.1⟩
      rw [if_neg b2] at h2 h3
      have b3 : b = 3 := by
        have n0 : b.toInt ≠ 0 := fun q => b0 (Int32.toInt_inj.mp q)
        have n1 : b.toInt ≠ 1 := fun q => b1 (Int32.toInt_inj.mp q)
        have n2 : b.toInt ≠ 2 := fun q => b2 (Int32.toInt_inj.mp q)
        exact Int32.toInt_inj.mp (by rw [z3]; omega)
      rw [if_pos b3] at h3
      obtain ⟨v1, s5, b5, h3⟩ := bsS h3
      obtain ⟨v2, s6, b6, h2⟩ := bsS h2
      obtain ⟨ev, hR⟩ := rt_tells' hT b5 b6
      cases h3; cases h2
      exact ⟨ev, hR.1⟩
theorem an_trace {σ ρ : S2} {τ : Nat} {a r q : Int32} (hR : RelA σ ρ) (h : fX11_trace τ σ a = some r) (h2 : fX12_trace ρ a = some q) : r = q := by
  obtain ⟨hk, hF, ⟨a1, a2⟩, hS, hE⟩ := hR
  unfold fX11_trace fX11_trace_0 at h
  unfold fX12_trace fX12_trace_0 at h2
  rw [a1] at h2
  by_cases c1 : a < 0
  · rw [if_pos c1] at h h2; cases h; cases h2; rfl
  rw [if_neg c1] at h h2
  by_cases c2 : σ.1 35 1 ≤ a
  · rw [if_pos c2] at h h2; cases h; cases h2; rfl
  rw [if_neg c2] at h h2
  by_cases c3 : 24 ≤ a
  · rw [if_pos c3] at h h2; cases h; cases h2; rfl
  rw [if_neg c3] at h h2
  obtain ⟨_, h⟩ := ckS h
  obtain ⟨_, h2⟩ := ckS h2
  have h : some (σ.1 36 a.toNatClampNeg) = some r := h
  have h2 : some (ρ.1 29 a.toNatClampNeg) = some q := h2
  cases h; cases h2
  exact (a2 _).symm
end
section
/-! shelves and rows -/
theorem el_ix {a i : Int32} (h0 : 0 ≤ a.toInt) (h1 : a.toInt ≤ 5) (h2 : 0 ≤ i.toInt) (h3 : i.toInt ≤ 60) : ((60 * a + i).toInt = 60 * a.toInt + i.toInt) ∧ (60 * a + i).toNatClampNeg = 60 * a.toNatClampNeg + i.toNatClampNeg := by
  have e60 : (60 : Int32).toInt = 60 := rfl
  have m := i32_mulL (a := 60) (b := a) e60 (by omega) (by omega)
  have s : (60 * a + i).toInt = 60 * a.toInt + i.toInt := by rw [i32_add (by omega) (by omega)]; omega
  have n1 := i32_nat h0
  have n2 := i32_nat h2
  have n3 := i32_nat (i := 60 * a + i) (by omega)
  exact ⟨s, by omega⟩
section SHELVES
variable {σ ρ : S2} {τ : Nat} {a b c : Int32}
theorem c_keep : Pt (fun z => (z.2 = σ ∧ z.1.toInt = -1 ∧ ¬ ((0 ≤ a.toInt ∧ a.toInt ≤ 5) ∧ (b.toInt = -1 ∨ (0 ≤ b.toInt ∧ b.toInt < (σ.1 7 5).toInt)))) ∨ (((0 ≤ a.toInt ∧ a.toInt ≤ 5) ∧ (b.toInt = -1 ∨ (0 ≤ b.toInt ∧ b.toInt < (σ.1 7 5).toInt))) ∧ z.1.toInt = 1 ∧ z.2 = ux_wI (ux_wI (ux_wI σ 38 a.toNatClampNeg b) 39 a.toNatClampNeg (-1)) 40 a.toNatClampNeg 0)) (fX11_keep τ σ a b) := by
  have z0 := i_0
  have y1 := i_m1
  have k25 : Pt (fun z : Int32 × S2 => z.1.toInt = 1 ∧ z.2 = ux_wI (ux_wI (ux_wI σ 38 a.toNatClampNeg b) 39 a.toNatClampNeg (-1)) 40 a.toNatClampNeg 0) (fX11_keep_25 τ σ a b) := by
    unfold fX11_keep_25
    refine pt_bs (P := fun z => z.2 = ux_wI (ux_wI (ux_wI σ 38 a.toNatClampNeg b) 39 a.toNatClampNeg (-1)) 40 a.toNatClampNeg 0) ?_ (fun r s h => pt_some ⟨rfl, h⟩)
    unfold fX7_holdKeeper fX7_holdKeeper_0
    exact pt_ck (fun _ _ _ => pt_ck (fun _ _ _ => pt_ck (fun _ _ _ => pt_some rfl)))
  unfold fX11_keep fX11_keep_0
  refine pt_bi q_shelf (fun r hr => ?_)
  refine pt_eq (fun h => pt_some (Or.inl ⟨rfl, y1, by omega⟩)) (fun h1 => ?_)
  refine pt_eq (fun h2 => pt_mono k25 (fun z hz => Or.inr ⟨by omega, hz⟩)) (fun h2 => ?_)
  refine pt_bi q_has (fun r2 hr2 => ?_)
  exact pt_eq (fun h => pt_some (Or.inl ⟨rfl, y1, by omega⟩)) (fun h3 => pt_mono k25 (fun z hz => Or.inr ⟨by omega, hz⟩))
theorem m_keep (hM : IvM 0 ρ) : Pt (fun z => (z.2 = ρ ∧ z.1.toInt = -1 ∧ ¬ ((0 ≤ a.toInt ∧ a.toInt ≤ 5) ∧ (b.toInt = -1 ∨ (0 ≤ b.toInt ∧ b.toInt < (ρ.1 0 3).toInt)))) ∨ (((0 ≤ a.toInt ∧ a.toInt ≤ 5) ∧ (b.toInt = -1 ∨ (0 ≤ b.toInt ∧ b.toInt < (ρ.1 0 3).toInt))) ∧ z.1.toInt = 1 ∧ z.2 = ux_wI (ux_wI ρ 30 a.toNatClampNeg b) 31 a.toNatClampNeg (-1))) (fX12_keep ρ a b) := by
  have z0 := i_0
  have y1 := i_m1
  have k25 : Pt (fun z : Int32 × S2 => z.1.toInt = 1 ∧ z.2 = ux_wI (ux_wI ρ 30 a.toNatClampNeg b) 31 a.toNatClampNeg (-1)) (fX12_keep_22 ρ a b) := by
    unfold fX12_keep_22
    exact pt_ck (fun _ _ _ => pt_ck (fun _ _ _ => pt_some ⟨rfl, rfl⟩))
  unfold fX12_keep fX12_keep_0
  refine pt_bi q_shelfM (fun r hr => ?_)
  refine pt_eq (fun h => pt_some (Or.inl ⟨rfl, y1, by omega⟩)) (fun h1 => ?_)
  refine pt_eq (fun h2 => pt_mono k25 (fun z hz => Or.inr ⟨by omega, hz⟩)) (fun h2 => ?_)
  refine pt_bi (q_keeperM hM) (fun r2 hr2 => ?_)
  exact pt_eq (fun h => pt_some (Or.inl ⟨rfl, y1, by omega⟩)) (fun h3 => pt_mono k25 (fun z hz => Or.inr ⟨by omega, hz⟩))
/-- a row filled with one value -/
theorem c_fillL {x : Int64} {c0 : Nat} {x4 : Int32} (h4 : x4.toInt ≤ 60) : ∀ (n : Nat) (σ : S2) (x3 : Int32), 0 ≤ x3.toInt → x3.toInt ≤ x4.toInt → Pt (fun z : Unit × S2 => z.2.1 = σ.1 ∧ ∀ k i : Nat, z.2.2 k i = if k = c0 ∧ x3.toInt ≤ (i : Int) ∧ (i : Int) < x4.toInt then x else σ.2 k i) (fJ7_fill_d0a16_6 τ c0 60 n σ x x3 x4) := by
  have z1 := i_1
  intro n
  induction n with
  | zero => intro σ x3 _ _; exact pt_none
  | succ n ih =>
    intro σ x3 h0 h1
    unfold fJ7_fill_d0a16_6
    refine pt_le (fun h2 => pt_some ⟨rfl, fun k i => ?_⟩) (fun h2 => pt_ck (fun _ _ hn => pt_nm (fun s1 e1 => pt_nm (fun v2 e2 => ?_))))
    · rw [if_neg (by omega)]
    · have e3 : v2.toInt = x3.toInt + 1 := by rw [e2, i32_add (by omega) (by omega)]; omega
      refine pt_mono (ih s1 v2 (by omega) (by omega)) (fun z hz => ⟨by rw [hz.1, e1]; rfl, fun k i => ?_⟩)
      rw [hz.2 k i, e1]
      show (if _ then x else (if k = c0 then vp_updL (σ.2 c0) x3.toNatClampNeg x else σ.2 k) i) = _
      by_cases q : k = c0
      · subst q
        rw [if_pos (c := k = k) rfl]
        by_cases q2 : v2.toInt ≤ (i : Int) ∧ (i : Int) < x4.toInt
        · rw [if_pos ⟨rfl, q2⟩, if_pos ⟨rfl, by omega, by omega⟩]
        · rw [if_neg (fun w => q2 w.2)]
          show (if i = x3.toNatClampNeg then x else σ.2 k i) = _
          by_cases q3 : i = x3.toNatClampNeg
          · rw [if_pos q3, if_pos ⟨rfl, by omega, by omega⟩]
          · rw [if_neg q3, if_neg (fun w => q2 ⟨by omega, w.2.2⟩)]
      · rw [if_neg q, if_neg (fun w => q w.1), if_neg (fun w => q w.1)]
theorem m_fillL {x1 : Int32} (h1 : 0 ≤ x1.toInt) (h5 : x1.toInt ≤ 5) : ∀ (n : Nat) (σ : S2) (x4 : Int32), 0 ≤ x4.toInt → x4.toInt ≤ 60 → Pt (fun z : Int32 × S2 => z.1.toInt = 1 ∧ z.2.1 = σ.1 ∧ ∀ i : Nat, z.2.2 33 i = if 60 * x1.toInt + x4.toInt ≤ (i : Int) ∧ (i : Int) < 60 * x1.toInt + 60 then 0 else σ.2 33 i) (fX12_row_55 n σ x1 x4) := by
  have z1 := i_1
  have z60 : (60 : Int32).toInt = 60 := rfl
  intro n
  induction n with
  | zero => intro σ x4 _ _; exact pt_none
  | succ n ih =>
    intro σ x4 h0 h2
    unfold fX12_row_55
    refine pt_le (fun h3 => pt_some ⟨rfl, rfl, fun i => ?_⟩) (fun h3 => pt_ck (fun _ _ hn => pt_nm (fun s1 e1 => pt_nm (fun v2 e2 => ?_))))
    · rw [if_neg (by omega)]
    · have e3 : v2.toInt = x4.toInt + 1 := by rw [e2, i32_add (by omega) (by omega)]; omega
      have ix := el_ix (a := x1) (i := x4) h1 h5 h0 h2
      refine pt_mono (ih s1 v2 (by omega) (by omega)) (fun z hz => ⟨hz.1, by rw [hz.2.1, e1]; rfl, fun i => ?_⟩)
      rw [hz.2.2 i, e1]
      show (if _ then (0 : Int64) else (if i = (60 * x1 + x4).toNatClampNeg then 0 else σ.2 33 i)) = _
      by_cases q : 60 * x1.toInt + v2.toInt ≤ (i : Int) ∧ (i : Int) < 60 * x1.toInt + 60
      · rw [if_pos q, if_pos (by omega)]
      · rw [if_neg q]
        by_cases q3 : i = (60 * x1 + x4).toNatClampNeg
        · rw [if_pos q3, if_pos (by omega)]
        · rw [if_neg q3, if_neg (by omega)]
noncomputable def rwBad (a b c : Int32) : Prop := ¬ ((0 ≤ a.toInt ∧ a.toInt ≤ 5) ∧ (0 ≤ b.toInt ∧ b.toInt ≤ 4) ∧ c.toInt ≤ 60)
theorem c_row : Pt (fun z => (z.2 = σ ∧ ((z.1.toInt = -1 ∧ ¬ ((0 ≤ a.toInt ∧ a.toInt ≤ 5) ∧ (0 ≤ b.toInt ∧ b.toInt ≤ 4) ∧ c.toInt ≤ 60)) ∨ (z.1.toInt = -14 ∧ ((0 ≤ a.toInt ∧ a.toInt ≤ 5) ∧ (0 ≤ b.toInt ∧ b.toInt ≤ 4) ∧ c.toInt ≤ 60) ∧ c.toInt < 0))) ∨ (((0 ≤ a.toInt ∧ a.toInt ≤ 5) ∧ (0 ≤ b.toInt ∧ b.toInt ≤ 4) ∧ c.toInt ≤ 60) ∧ 0 ≤ c.toInt ∧ z.1.toInt = 1 ∧ z.2.1 = (ux_wI (ux_wI (ux_wI σ 38 a.toNatClampNeg (-1)) 39 a.toNatClampNeg b) 40 a.toNatClampNeg c).1 ∧ ∀ k i : Nat, z.2.2 k i = if k = 176 + a.toNatClampNeg ∧ (0 : Int) ≤ (i : Int) ∧ (i : Int) < 60 then 0 else σ.2 k i)) (fX11_row τ σ a b c) := by
  have z0 := i_0
  have z4 := i_4
  have z60 : (60 : Int32).toInt = 60 := rfl
  have y1 := i_m1
  have y14 := i_m14
  unfold fX11_row fX11_row_0
  refine pt_bi q_shelf (fun r hr => ?_)
  refine pt_eq (fun h => pt_some (Or.inl ⟨rfl, Or.inl ⟨y1, by omega⟩⟩)) (fun h1 => ?_)
  refine pt_lt (fun h => pt_some (Or.inl ⟨rfl, Or.inl ⟨y1, by omega⟩⟩)) (fun h2 => ?_)
  refine pt_lt (fun h => pt_some (Or.inl ⟨rfl, Or.inl ⟨y1, by omega⟩⟩)) (fun h3 => ?_)
  refine pt_le (fun h4 => ?_) (fun h => pt_some (Or.inl ⟨rfl, Or.inl ⟨y1, by omega⟩⟩))
  refine pt_le (fun h5 => ?_) (fun h => pt_some (Or.inl ⟨rfl, Or.inr ⟨y14, by omega, by omega⟩⟩))
  refine pt_bs (P := fun z => z.2.1 = (ux_wI (ux_wI (ux_wI σ 38 a.toNatClampNeg (-1)) 39 a.toNatClampNeg b) 40 a.toNatClampNeg c).1 ∧ ∀ k i : Nat, z.2.2 k i = if k = 176 + a.toNatClampNeg ∧ (0 : Int) ≤ (i : Int) ∧ (i : Int) < 60 then 0 else σ.2 k i) ?_ (fun r s h => pt_some (Or.inr ⟨by omega, by omega, rfl, h⟩))
  unfold fX7_holdRow fX7_holdRow_0
  refine pt_ck (fun _ _ _ => pt_ck (fun _ _ _ => pt_ck (fun _ _ _ => pt_ck (fun _ _ _ => ?_))))
  refine pt_bs (P := fun z => z.2.1 = (ux_wI (ux_wI (ux_wI σ 38 a.toNatClampNeg (-1)) 39 a.toNatClampNeg b) 40 a.toNatClampNeg c).1 ∧ ∀ k i : Nat, z.2.2 k i = if k = 176 + a.toNatClampNeg ∧ (0 : Int) ≤ (i : Int) ∧ (i : Int) < 60 then 0 else σ.2 k i) ?_ (fun r s h => pt_some h)
  unfold fJ7_fill_d0a16 fJ7_fill_d0a16_0
  refine pt_nm (fun v e => ?_)
  have e60 : v.toInt = 60 := by rw [e]; decide
  refine pt_mono (c_fillL (x := 0) (c0 := 176 + a.toNatClampNeg) (x4 := v) (by omega) FU _ 0 (by decide) (by omega)) (fun z hz => ⟨hz.1, fun k i => ?_⟩)
  rw [hz.2 k i, z0, e60]
  rfl
theorem m_row : Pt (fun z => (z.2 = ρ ∧ ((z.1.toInt = -1 ∧ ¬ ((0 ≤ a.toInt ∧ a.toInt ≤ 5) ∧ (0 ≤ b.toInt ∧ b.toInt ≤ 4) ∧ c.toInt ≤ 60)) ∨ (z.1.toInt = -14 ∧ ((0 ≤ a.toInt ∧ a.toInt ≤ 5) ∧ (0 ≤ b.toInt ∧ b.toInt ≤ 4) ∧ c.toInt ≤ 60) ∧ c.toInt < 0))) ∨ (((0 ≤ a.toInt ∧ a.toInt ≤ 5) ∧ (0 ≤ b.toInt ∧ b.toInt ≤ 4) ∧ c.toInt ≤ 60) ∧ 0 ≤ c.toInt ∧ z.1.toInt = 1 ∧ z.2.1 = (ux_wI (ux_wI (ux_wI ρ 30 a.toNatClampNeg (-1)) 31 a.toNatClampNeg b) 32 a.toNatClampNeg c).1 ∧ ∀ i : Nat, z.2.2 33 i = if 60 * a.toInt ≤ (i : Int) ∧ (i : Int) < 60 * a.toInt + 60 then 0 else ρ.2 33 i)) (fX12_row ρ a b c) := by
  have z0 := i_0
  have z4 := i_4
  have z60 : (60 : Int32).toInt = 60 := rfl
  have y1 := i_m1
  have y14 := i_m14
  unfold fX12_row fX12_row_0
  refine pt_bi q_shelfM (fun r hr => ?_)
  refine pt_eq (fun h => pt_some (Or.inl ⟨rfl, Or.inl ⟨y1, by omega⟩⟩)) (fun h1 => ?_)
  refine pt_bi q_in (fun r2 hr2 => ?_)
  refine pt_eq (fun h => pt_some (Or.inl ⟨rfl, Or.inl ⟨y1, by omega⟩⟩)) (fun h2 => ?_)
  refine pt_le (fun h4 => ?_) (fun h => pt_some (Or.inl ⟨rfl, Or.inl ⟨y1, by omega⟩⟩))
  refine pt_le (fun h5 => ?_) (fun h => pt_some (Or.inl ⟨rfl, Or.inr ⟨y14, by omega, by omega⟩⟩))
  refine pt_ck (fun _ _ _ => pt_ck (fun _ _ _ => pt_ck (fun _ _ _ => ?_)))
  refine pt_mono (m_fillL (x1 := a) (by omega) (by omega) FU _ 0 (by decide) (by decide)) (fun z hz => Or.inr ⟨by omega, by omega, hz.1, hz.2.1, fun i => ?_⟩)
  rw [hz.2.2 i, z0, show 60 * a.toInt + 0 = 60 * a.toInt by omega]
  rfl
end SHELVES
section STEPS
variable {σ ρ σ' ρ' : S2} {τ : Nat} {a b c r q : Int32}
theorem st_keep (hR : RelA σ ρ) (hI : IvC 0 τ σ) (hM : IvM 0 ρ) (h : fX11_keep τ σ a b = some (r, σ')) (h2 : fX12_keep ρ a b = some (q, ρ')) : r = q ∧ RelA σ' ρ' := by
  have p1 := c_keep (a := a) (b := b) _ h
  have p2 := m_keep (a := a) (b := b) hM _ h2
  obtain ⟨hk, hF, hA, hS, hE⟩ := hR
  have fc := wfX11_keep (m := 2097152) rfl τ σ a b (Fr.rf σ) _ h
  have fm := wfX12_keep (m := 2097152) rfl ρ a b (Fr.rf ρ) _ h2
  have b1 : 0 ≤ (σ.1 7 5).toInt ∧ (σ.1 7 5).toInt ≤ 12 := hI.1 7 5
  rw [hk.1] at p2
  rcases p1 with ⟨e, p1, p3⟩ | ⟨g, e, e2⟩ <;> rcases p2 with ⟨d, p2, p4⟩ | ⟨f, d, d2⟩
  · have e : σ' = σ := e
    have d : ρ' = ρ := d
    subst e; subst d
    exact ⟨Int32.toInt_inj.mp (Eq.trans p1 (Eq.symm p2)), hk, hF, hA, hS, hE⟩
  · exfalso; exact p3 f
  · exfalso; exact p4 g
  · have e2 : σ' = _ := e2
    have d2 : ρ' = _ := d2
    refine ⟨Int32.toInt_inj.mp (Eq.trans e (Eq.symm d)), hk.fr fc fm rfl rfl rfl rfl rfl rfl rfl rfl, hF.fr fc fm rfl rfl, hA.fr fc fm rfl rfl, fun i hi => ?_, hE.fr fc fm rfl rfl⟩
    obtain ⟨s1, s2, s3, s4⟩ := hS i hi
    rw [e2, d2]
    show (if i = a.toNatClampNeg then b else ρ.1 30 i) = (if i = a.toNatClampNeg then b else σ.1 38 i) ∧ (if i = a.toNatClampNeg then (-1 : Int32) else ρ.1 31 i) = (if i = a.toNatClampNeg then (-1 : Int32) else σ.1 39 i) ∧ ((if i = a.toNatClampNeg then (-1 : Int32) else σ.1 39 i) ≠ -1 → ρ.1 32 i = (if i = a.toNatClampNeg then (0 : Int32) else σ.1 40 i) ∧ (if i = a.toNatClampNeg then b else σ.1 38 i) = -1) ∧ (if i = a.toNatClampNeg then b else σ.1 38 i).toInt < (σ.1 7 5).toInt
    by_cases q : i = a.toNatClampNeg
    · rw [if_pos q, if_pos q, if_pos q, if_pos q, if_pos q]
      exact ⟨rfl, rfl, fun n => absurd rfl n, by omega⟩
    · rw [if_neg q, if_neg q, if_neg q, if_neg q, if_neg q]
      exact ⟨s1, s2, s3, s4⟩
theorem st_row (hR : RelA σ ρ) (hI : IvC 0 τ σ) (h : fX11_row τ σ a b c = some (r, σ')) (h2 : fX12_row ρ a b c = some (q, ρ')) : r = q ∧ RelA σ' ρ' := by
  have p1 := c_row (a := a) (b := b) (c := c) _ h
  have p2 := m_row (a := a) (b := b) (c := c) _ h2
  obtain ⟨hk, hF, hA, hS, hE⟩ := hR
  have fc := wfX11_row (m := 6291456) rfl τ σ a b c (Fr.rf σ) _ h
  have fm := wfX12_row (m := 6291456) rfl ρ a b c (Fr.rf ρ) _ h2
  have b1 : 0 ≤ (σ.1 7 5).toInt ∧ (σ.1 7 5).toInt ≤ 12 := hI.1 7 5
  have y1 := i_m1
  have z0 := i_0
  rcases p1 with ⟨e, p1⟩ | ⟨g, g2, e, e2, e3⟩ <;> rcases p2 with ⟨d, p2⟩ | ⟨f, f2, d, d2, d3⟩
  · have e : σ' = σ := e
    have d : ρ' = ρ := d
    subst e; subst d
    refine ⟨Int32.toInt_inj.mp ?_, hk, hF, hA, hS, hE⟩
    have p1 : (r.toInt = -1 ∧ _) ∨ (r.toInt = -14 ∧ _) := p1
    have p2 : (q.toInt = -1 ∧ _) ∨ (q.toInt = -14 ∧ _) := p2
    omega
  · exfalso; omega
  · exfalso; omega
  · have e2 : σ'.1 = _ := e2
    have d2 : ρ'.1 = _ := d2
    have n1 := i32_nat g.1.1
    refine ⟨Int32.toInt_inj.mp (Eq.trans e (Eq.symm d)), hk.fr fc fm rfl rfl rfl rfl rfl rfl rfl rfl, hF.fr fc fm rfl rfl, hA.fr fc fm rfl rfl, fun i hi => ?_, fun s i hs hi => ?_⟩
    · obtain ⟨s1, s2, s3, s4⟩ := hS i hi
      rw [e2, d2]
      show (if i = a.toNatClampNeg then (-1 : Int32) else ρ.1 30 i) = (if i = a.toNatClampNeg then (-1 : Int32) else σ.1 38 i) ∧ (if i = a.toNatClampNeg then b else ρ.1 31 i) = (if i = a.toNatClampNeg then b else σ.1 39 i) ∧ ((if i = a.toNatClampNeg then b else σ.1 39 i) ≠ -1 → (if i = a.toNatClampNeg then c else ρ.1 32 i) = (if i = a.toNatClampNeg then c else σ.1 40 i) ∧ (if i = a.toNatClampNeg then (-1 : Int32) else σ.1 38 i) = -1) ∧ (if i = a.toNatClampNeg then (-1 : Int32) else σ.1 38 i).toInt < (σ.1 7 5).toInt
      by_cases q : i = a.toNatClampNeg
      · rw [if_pos q, if_pos q, if_pos q, if_pos q, if_pos q, if_pos q]
        exact ⟨rfl, rfl, fun _ => ⟨rfl, rfl⟩, by omega⟩
      · rw [if_neg q, if_neg q, if_neg q, if_neg q, if_neg q, if_neg q]
        exact ⟨s1, s2, s3, s4⟩
    · have e4 : σ'.2 (176 + s) i = _ := e3 (176 + s) i
      have d4 : ρ'.2 33 (60 * s + i) = _ := d3 (60 * s + i)
      rw [e4, d4]
      by_cases q : s = a.toNatClampNeg
      · rw [if_pos (by omega), if_pos (by omega)]
      · rw [if_neg (by omega), if_neg (by omega)]; exact hE s i hs hi
end STEPS
/-! elements -/
noncomputable def rfC (srt kp len i : Int) : Int := if srt = -1 then (if kp = -1 then -11 else -12) else if 0 ≤ i ∧ i < len then 0 else -13
section ELEMS
variable {σ ρ : S2} {τ : Nat} {a i : Int32}
theorem q_empty : Pt (fun r => (r.toInt = 0 ∧ ¬ ((σ.1 39 a.toNatClampNeg).toInt = -1 ∧ (σ.1 38 a.toNatClampNeg).toInt = -1)) ∨ (r.toInt = 1 ∧ (σ.1 39 a.toNatClampNeg).toInt = -1 ∧ (σ.1 38 a.toNatClampNeg).toInt = -1)) (fX7_isEmpty τ σ a) := by
  have z0 := i_0
  have z1 := i_1
  have y1 := i_m1
  unfold fX7_isEmpty fX7_isEmpty_0
  refine pt_ck (fun _ _ _ => pt_nm (fun v e => ?_))
  subst e
  refine pt_eq (fun h => pt_ck (fun _ _ _ => pt_nm (fun v e => ?_))) (fun h => pt_some (by rw [z0]; omega))
  subst e
  exact pt_eq (fun h2 => pt_some (by rw [z1]; omega)) (fun h2 => pt_some (by rw [z0]; omega))
theorem q_isRow : Pt (fun r => (r.toInt = 0 ∧ (σ.1 39 a.toNatClampNeg).toInt = -1) ∨ (r.toInt = 1 ∧ (σ.1 39 a.toNatClampNeg).toInt ≠ -1)) (fX7_isRow τ σ a) := by
  have z0 := i_0
  have z1 := i_1
  have y1 := i_m1
  unfold fX7_isRow fX7_isRow_0
  refine pt_ck (fun _ _ _ => pt_nm (fun v e => ?_))
  subst e
  exact pt_eq (fun h2 => pt_some (by rw [z0]; omega)) (fun h2 => pt_some (by rw [z1]; omega))
theorem q_ref : Pt (fun r => r.toInt = rfC (σ.1 39 a.toNatClampNeg).toInt (σ.1 38 a.toNatClampNeg).toInt (σ.1 40 a.toNatClampNeg).toInt i.toInt) (fX7_refusalAt τ σ a i) := by
  have z0 := i_0
  unfold fX7_refusalAt fX7_refusalAt_0
  refine pt_bi q_empty (fun r hr => ?_)
  refine pt_eq (fun h => ?_) (fun h => pt_some ?_)
  · refine pt_bi q_isRow (fun r2 hr2 => ?_)
    refine pt_eq (fun h2 => pt_some ?_) (fun h2 => ?_)
    · unfold rfC; rw [i_m12, if_pos (by omega), if_neg (by omega)]
    · refine pt_lt (fun h3 => pt_some ?_) (fun h3 => ?_)
      · unfold rfC; rw [i_m13, if_neg (by omega), if_neg (by omega)]
      · refine pt_ck (fun _ _ _ => pt_nm (fun v e => ?_))
        subst e
        refine pt_le (fun h4 => pt_some ?_) (fun h4 => pt_some ?_)
        · unfold rfC; rw [i_m13, if_neg (by omega), if_neg (by omega)]
        · unfold rfC; rw [z0, if_neg (by omega), if_pos (by omega)]
  · unfold rfC; rw [i_m11, if_pos (by omega), if_pos (by omega)]
theorem q_bar (hM : IvM 0 ρ) : Pt (fun r => r.toInt = (if 0 ≤ a.toInt ∧ a.toInt ≤ 5 then rfC (ρ.1 31 a.toNatClampNeg).toInt (ρ.1 30 a.toNatClampNeg).toInt (ρ.1 32 a.toNatClampNeg).toInt i.toInt else -1)) (fX12_barred ρ a i) := by
  have z0 := i_0
  have z1 := i_1
  have b31 : -1 ≤ (ρ.1 31 a.toNatClampNeg).toInt ∧ (ρ.1 31 a.toNatClampNeg).toInt ≤ 4 := hM.1 31 _
  have b30 : -1 ≤ (ρ.1 30 a.toNatClampNeg).toInt ∧ (ρ.1 30 a.toNatClampNeg).toInt ≤ 11 := hM.1 30 _
  have b32 : 0 ≤ (ρ.1 32 a.toNatClampNeg).toInt ∧ (ρ.1 32 a.toNatClampNeg).toInt ≤ 60 := hM.1 32 _
  unfold fX12_barred fX12_barred_0
  refine pt_bi q_shelfM (fun r hr => ?_)
  refine pt_eq (fun h => pt_some ?_) (fun h => ?_)
  · rw [i_m1, if_neg (by omega)]
  · rw [if_pos (by omega)]
    refine pt_ck (fun _ _ _ => pt_nm (fun v e => ?_))
    subst e
    refine pt_le (fun h2 => ?_) (fun h2 => ?_)
    · refine pt_ck (fun _ _ _ => pt_nm (fun v e => ?_))
      subst e
      have es : (ρ.1 32 a.toNatClampNeg - 1).toInt = (ρ.1 32 a.toNatClampNeg).toInt - 1 := by rw [i32_sub (by omega) (by omega)]; omega
      refine pt_bi q_in (fun r2 hr2 => ?_)
      refine pt_eq (fun h3 => pt_some ?_) (fun h3 => pt_some ?_)
      · unfold rfC; rw [i_m13, if_neg (by omega), if_neg (by omega)]
      · unfold rfC; rw [z0, if_neg (by omega), if_pos (by omega)]
    · refine pt_ck (fun _ _ _ => pt_nm (fun v e => ?_))
      subst e
      refine pt_le (fun h3 => pt_some ?_) (fun h3 => pt_some ?_)
      · unfold rfC; rw [i_m12, if_pos (by omega), if_neg (by omega)]
      · unfold rfC; rw [i_m11, if_pos (by omega), if_pos (by omega)]
end ELEMS
theorem rf_eq {σ ρ : S2} {a : Int32} {i : Int} (hS : RS σ ρ) (h0 : 0 ≤ a.toInt) (h1 : a.toInt ≤ 5) : rfC (ρ.1 31 a.toNatClampNeg).toInt (ρ.1 30 a.toNatClampNeg).toInt (ρ.1 32 a.toNatClampNeg).toInt i = rfC (σ.1 39 a.toNatClampNeg).toInt (σ.1 38 a.toNatClampNeg).toInt (σ.1 40 a.toNatClampNeg).toInt i := by
  have n := i32_nat h0
  obtain ⟨s1, s2, s3, _⟩ := hS a.toNatClampNeg (by omega)
  rw [s1, s2]
  by_cases c : σ.1 39 a.toNatClampNeg = -1
  · unfold rfC
    have e : (σ.1 39 a.toNatClampNeg).toInt = -1 := by rw [c]; rfl
    rw [if_pos e, if_pos e]
  · rw [(s3 c).1]
noncomputable def lowV (s : Int32) (v : Int64) : Int64 := if s = 0 then Int32.toInt64 (Int8.toInt32 (Int32.toInt8 (Int64.toInt32 v))) else if s = 1 then Int32.toInt64 (Int16.toInt32 (Int32.toInt16 (Int64.toInt32 v))) else if s = 2 then Int32.toInt64 (Int64.toInt32 v) else if s = 3 then v else if (lg_cmp v 0) = 0 then 0 else 1
section STEPS2
variable {σ ρ σ' ρ' : S2} {τ : Nat} {a i r q : Int32}
theorem rf_0 {srt kp len i : Int} (h : rfC srt kp len i = 0) : srt ≠ -1 ∧ 0 ≤ i ∧ i < len := by
  unfold rfC at h
  by_cases c : srt = -1
  · rw [if_pos c] at h
    by_cases c2 : kp = -1
    · rw [if_pos c2] at h; omega
    · rw [if_neg c2] at h; omega
  · rw [if_neg c] at h
    by_cases c2 : 0 ≤ i ∧ i < len
    · exact ⟨c, c2⟩
    · rw [if_neg c2] at h; omega
theorem st_put {v : Int64} (hR : RelA σ ρ) (hI : IvC 0 τ σ) (hM : IvM 0 ρ) (h : fX11_put τ σ a i v = some (r, σ')) (h2 : fX12_put ρ a i v = some (q, ρ')) : r = q ∧ RelA σ' ρ' := by
  have z0 := i_0
  obtain ⟨hk, hF, hA, hS, hE⟩ := hR
  have fc := wfX11_put (m := 4194304) rfl τ σ a i v (Fr.rf σ) _ h
  have fm := wfX12_put (m := 4194304) rfl ρ a i v (Fr.rf ρ) _ h2
  suffices hs : r = q ∧ RE σ' ρ' from ⟨hs.1, hk.fr fc fm rfl rfl rfl rfl rfl rfl rfl rfl, hF.fr fc fm rfl rfl, hA.fr fc fm rfl rfl, hS.fr fc fm rfl rfl (by rw [(fc 7 5 rfl).1]; exact Int.le_refl _), hs.2⟩
  unfold fX11_put fX11_put_0 at h
  unfold fX12_put fX12_put_0 at h2
  obtain ⟨r1, e1, h⟩ := biS h
  obtain ⟨r2, e2, h2⟩ := biS h2
  have e1 := q_shelf _ e1
  have e2 := q_bar hM _ e2
  by_cases c1 : r1 = 0
  · have c1' : r1.toInt = 0 := by rw [c1]; rfl
    rw [if_pos c1] at h
    rw [if_neg (by omega)] at e2
    have c2 : ¬ r2 = 0 := fun w => by rw [w, z0] at e2; omega
    rw [if_neg c2] at h2
    cases h; cases h2
    exact ⟨Int32.toInt_inj.mp (by rw [e2]; rfl), hE⟩
  have c1' : r1.toInt ≠ 0 := fun w => c1 (Int32.toInt_inj.mp w)
  rw [if_neg c1] at h
  have sa : 0 ≤ a.toInt ∧ a.toInt ≤ 5 := by omega
  rw [if_pos sa, rf_eq hS sa.1 sa.2] at e2
  obtain ⟨r3, e3, h⟩ := biS h
  have e3 := q_ref _ e3
  have e23 : r3 = r2 := Int32.toInt_inj.mp (e3.trans e2.symm)
  subst e23
  by_cases c3 : r3 = 0
  · rw [if_pos c3] at h h2
    have c3' : r3.toInt = 0 := by rw [c3]; rfl
    have hin := rf_0 (e3.symm.trans c3')
    have n := i32_nat sa.1
    obtain ⟨s1, s2, s3, _⟩ := hS a.toNatClampNeg (by omega)
    have b39 : -1 ≤ (σ.1 39 a.toNatClampNeg).toInt ∧ (σ.1 39 a.toNatClampNeg).toInt ≤ 4 := hI.1 39 _
    have b40 : 0 ≤ (σ.1 40 a.toNatClampNeg).toInt ∧ (σ.1 40 a.toNatClampNeg).toInt ≤ 60 := hI.1 40 _
    have ix := el_ix (a := a) (i := i) sa.1 sa.2 (by omega) (by omega)
    have ni := i32_nat (i := i) (by omega)
    obtain ⟨_, h⟩ := ckS h
    obtain ⟨_, h⟩ := ckS h
    have h : bi (fX7_lowest τ σ (σ.1 39 a.toNatClampNeg) v) (fun r7 => ck 60 i (nm (ux_wL σ (176 + a.toNatClampNeg) i.toNatClampNeg r7) (fun σ9 => some (1, σ9)))) = some (r, σ') := h
    obtain ⟨w, e4, h⟩ := biS h
    obtain ⟨_, h⟩ := ckS h
    have h : some ((1 : Int32), ux_wL σ (176 + a.toNatClampNeg) i.toNatClampNeg w) = some (r, σ') := h
    obtain ⟨_, h2⟩ := ckS h2
    have p92 : ∀ w : Int64, fX12_put_92 ρ w (60 * a + i) = some (q, ρ') → q = 1 ∧ ρ' = ux_wL ρ 33 (60 * a + i).toNatClampNeg w := fun w h9 => by
      unfold fX12_put_92 at h9
      obtain ⟨_, h9⟩ := ckS h9
      have h9 : some ((1 : Int32), ux_wL ρ 33 (60 * a + i).toNatClampNeg w) = some (q, ρ') := h9
      cases h9; exact ⟨rfl, rfl⟩
    have hw : w = lowV (σ.1 39 a.toNatClampNeg) v := by
      unfold fX7_lowest fX7_lowest_0 at e4
      unfold lowV
      generalize σ.1 39 a.toNatClampNeg = s at e4 b39 hin ⊢
      by_cases k0 : s = 0
      · rw [if_pos k0] at e4 ⊢; cases e4; rfl
      rw [if_neg k0] at e4 ⊢
      by_cases k1 : s = 1
      · rw [if_pos k1] at e4 ⊢; cases e4; rfl
      rw [if_neg k1] at e4 ⊢
      by_cases k2 : s = 2
      · rw [if_pos k2] at e4 ⊢; cases e4; rfl
      rw [if_neg k2] at e4 ⊢
      by_cases k3 : s = 3
      · rw [if_pos k3] at e4 ⊢; cases e4; rfl
      rw [if_neg k3] at e4 ⊢
      have k4 : s = 4 := by
        have n0 : s.toInt ≠ 0 := fun q => k0 (Int32.toInt_inj.mp q)
        have n1 : s.toInt ≠ 1 := fun q => k1 (Int32.toInt_inj.mp q)
        have n2 : s.toInt ≠ 2 := fun q => k2 (Int32.toInt_inj.mp q)
        have n3 : s.toInt ≠ 3 := fun q => k3 (Int32.toInt_inj.mp q)
        exact Int32.toInt_inj.mp (by rw [i_4]; omega)
      rw [if_pos k4] at e4
      by_cases k5 : lg_cmp v 0 = 0
      · rw [if_pos k5] at e4 ⊢; cases e4; rfl
      · rw [if_neg k5] at e4 ⊢; cases e4; rfl
    have hq : q = 1 ∧ ρ' = ux_wL ρ 33 (60 * a + i).toNatClampNeg (lowV (σ.1 39 a.toNatClampNeg) v) := by
      have h2 : (if ρ.1 31 a.toNatClampNeg = 0 then fX12_put_92 ρ (Int32.toInt64 (Int8.toInt32 (Int32.toInt8 (Int64.toInt32 v)))) (60 * a + i) else if ρ.1 31 a.toNatClampNeg = 1 then fX12_put_92 ρ (Int32.toInt64 (Int16.toInt32 (Int32.toInt16 (Int64.toInt32 v)))) (60 * a + i) else if ρ.1 31 a.toNatClampNeg = 2 then fX12_put_92 ρ (Int32.toInt64 (Int64.toInt32 v)) (60 * a + i) else if ρ.1 31 a.toNatClampNeg = 3 then fX12_put_92 ρ v (60 * a + i) else if (lg_cmp v 0) = 0 then fX12_put_92 ρ 0 (60 * a + i) else fX12_put_92 ρ 1 (60 * a + i)) = some (q, ρ') := h2
      rw [s2] at h2
      unfold lowV
      generalize σ.1 39 a.toNatClampNeg = s at h2 ⊢
      by_cases k0 : s = 0
      · rw [if_pos k0] at h2 ⊢; exact p92 _ h2
      rw [if_neg k0] at h2 ⊢
      by_cases k1 : s = 1
      · rw [if_pos k1] at h2 ⊢; exact p92 _ h2
      rw [if_neg k1] at h2 ⊢
      by_cases k2 : s = 2
      · rw [if_pos k2] at h2 ⊢; exact p92 _ h2
      rw [if_neg k2] at h2 ⊢
      by_cases k3 : s = 3
      · rw [if_pos k3] at h2 ⊢; exact p92 _ h2
      rw [if_neg k3] at h2 ⊢
      by_cases k5 : lg_cmp v 0 = 0
      · rw [if_pos k5] at h2 ⊢; exact p92 _ h2
      · rw [if_neg k5] at h2 ⊢; exact p92 _ h2
    cases h
    refine ⟨hq.1.symm, fun s j hs hj => ?_⟩
    rw [hq.2, ← hw, ix.2]
    show (if 60 * s + j = 60 * a.toNatClampNeg + i.toNatClampNeg then w else ρ.2 33 (60 * s + j)) = (if 176 + s = 176 + a.toNatClampNeg then vp_updL (σ.2 (176 + a.toNatClampNeg)) i.toNatClampNeg w else σ.2 (176 + s)) j
    by_cases k1 : s = a.toNatClampNeg
    · subst k1
      rw [if_pos (c := 176 + a.toNatClampNeg = 176 + a.toNatClampNeg) rfl]
      show _ = (if j = i.toNatClampNeg then w else σ.2 (176 + a.toNatClampNeg) j)
      by_cases k2 : j = i.toNatClampNeg
      · rw [if_pos k2, if_pos (by omega)]
      · rw [if_neg k2, if_neg (by omega)]; exact hE _ _ hs hj
    · rw [if_neg (by omega), if_neg (by omega)]; exact hE _ _ hs hj
  · rw [if_neg c3] at h h2
    cases h; cases h2
    exact ⟨rfl, hE⟩
theorem an_element {w w2 : Int64} (hR : RelA σ ρ) (hI : IvC 0 τ σ) (hM : IvM 0 ρ) (h : fX11_element τ σ a i = some w) (h2 : fX12_element ρ a i = some w2) : w = w2 := by
  have z0 := i_0
  obtain ⟨hk, hF, hA, hS, hE⟩ := hR
  unfold fX11_element fX11_element_0 fX11_element_19 at h
  unfold fX12_element fX12_element_0 at h2
  obtain ⟨r1, e1, h⟩ := biS h
  obtain ⟨r2, e2, h2⟩ := biS h2
  have e1 := q_shelf _ e1
  have e2 := q_bar hM _ e2
  by_cases c1 : r1 = 0
  · have c1' : r1.toInt = 0 := by rw [c1]; rfl
    rw [if_pos c1] at h
    rw [if_neg (by omega)] at e2
    have c2 : ¬ r2 = 0 := fun w => by rw [w, z0] at e2; omega
    rw [if_neg c2] at h2
    cases h; cases h2; rfl
  have c1' : r1.toInt ≠ 0 := fun w => c1 (Int32.toInt_inj.mp w)
  rw [if_neg c1] at h
  have sa : 0 ≤ a.toInt ∧ a.toInt ≤ 5 := by omega
  rw [if_pos sa, rf_eq hS sa.1 sa.2] at e2
  obtain ⟨r3, e3, h⟩ := biS h
  have e3 := q_ref _ e3
  have e23 : r3 = r2 := Int32.toInt_inj.mp (e3.trans e2.symm)
  subst e23
  by_cases c3 : r3 = 0
  · rw [if_pos c3] at h h2
    have c3' : r3.toInt = 0 := by rw [c3]; rfl
    have hin := rf_0 (e3.symm.trans c3')
    have n := i32_nat sa.1
    have b40 : 0 ≤ (σ.1 40 a.toNatClampNeg).toInt ∧ (σ.1 40 a.toNatClampNeg).toInt ≤ 60 := hI.1 40 _
    have ix := el_ix (a := a) (i := i) sa.1 sa.2 (by omega) (by omega)
    have ni := i32_nat (i := i) (by omega)
    obtain ⟨_, h⟩ := ckS h
    obtain ⟨_, h⟩ := ckS h
    have h : some (σ.2 (176 + a.toNatClampNeg) i.toNatClampNeg) = some w := h
    obtain ⟨_, h2⟩ := ckS h2
    have h2 : some (ρ.2 33 (60 * a + i).toNatClampNeg) = some w2 := h2
    cases h; cases h2
    rw [ix.2]
    exact (hE _ _ (by omega) (by omega)).symm
  · rw [if_neg c3] at h h2
    cases h; cases h2; rfl
end STEPS2
end
section
/-! shift: both sides move the same elements -/
section SHIFT
variable {σ ρ σ' ρ' : S2} {τ : Nat} {a b c d n r q : Int32}
theorem q_spans {i : Int32} (hI : IvC 0 τ σ) : Pt (fun r => (r.toInt = 0 ∧ ¬ (0 ≤ i.toInt ∧ 0 ≤ n.toInt ∧ i.toInt ≤ (σ.1 40 a.toNatClampNeg).toInt ∧ n.toInt ≤ (σ.1 40 a.toNatClampNeg).toInt - i.toInt)) ∨ (r.toInt = 1 ∧ (0 ≤ i.toInt ∧ 0 ≤ n.toInt ∧ i.toInt ≤ (σ.1 40 a.toNatClampNeg).toInt ∧ n.toInt ≤ (σ.1 40 a.toNatClampNeg).toInt - i.toInt))) (fX7_spans τ σ a i n) := by
  have z0 := i_0
  have z1 := i_1
  have b40 : 0 ≤ (σ.1 40 a.toNatClampNeg).toInt ∧ (σ.1 40 a.toNatClampNeg).toInt ≤ 60 := hI.1 40 _
  unfold fX7_spans fX7_spans_0
  refine pt_lt (fun h => pt_some (by rw [z0]; omega)) (fun h => ?_)
  refine pt_lt (fun h => pt_some (by rw [z0]; omega)) (fun h1 => ?_)
  refine pt_ck (fun _ _ _ => pt_nm (fun v e => ?_))
  subst e
  refine pt_lt (fun h => pt_some (by rw [z0]; omega)) (fun h2 => ?_)
  refine pt_ck (fun _ _ _ => pt_nm (fun v e => ?_))
  subst e
  have es : (σ.1 40 a.toNatClampNeg - i).toInt = (σ.1 40 a.toNatClampNeg).toInt - i.toInt := i32_sub (by omega) (by omega)
  exact pt_lt (fun h => pt_some (by rw [z0]; omega)) (fun h3 => pt_some (by rw [z1]; omega))
/-- the answer of shift: row a from b on, to row c from d on, n elements; sorts, keepers and lengths of the two rows -/
noncomputable def ShQ (a c ta tc ka kc la lc i j n x : Int) : Prop :=
  (x = -1 ∧ ¬ ((0 ≤ a ∧ a ≤ 5) ∧ (0 ≤ c ∧ c ≤ 5))) ∨ (x = -11 ∧ ((0 ≤ a ∧ a ≤ 5) ∧ (0 ≤ c ∧ c ≤ 5)) ∧ ((ta = -1 ∧ ka = -1) ∨ (tc = -1 ∧ kc = -1))) ∨ (x = -12 ∧ ((0 ≤ a ∧ a ≤ 5) ∧ (0 ≤ c ∧ c ≤ 5)) ∧ ¬ (ta = -1 ∧ ka = -1) ∧ ¬ (tc = -1 ∧ kc = -1) ∧ (ta = -1 ∨ tc = -1 ∨ ta ≠ tc)) ∨ (x = -13 ∧ ((0 ≤ a ∧ a ≤ 5) ∧ (0 ≤ c ∧ c ≤ 5)) ∧ ta ≠ -1 ∧ tc ≠ -1 ∧ ta = tc ∧ (¬ (0 ≤ i ∧ 0 ≤ n ∧ i ≤ la ∧ n ≤ la - i) ∨ ¬ (0 ≤ j ∧ 0 ≤ n ∧ j ≤ lc ∧ n ≤ lc - j)))
noncomputable def ShG (a c ta tc la lc i j n : Int) : Prop := ((0 ≤ a ∧ a ≤ 5) ∧ (0 ≤ c ∧ c ≤ 5)) ∧ ta ≠ -1 ∧ tc ≠ -1 ∧ ta = tc ∧ (0 ≤ i ∧ 0 ≤ n ∧ i ≤ la ∧ n ≤ la - i) ∧ (0 ≤ j ∧ 0 ≤ n ∧ j ≤ lc ∧ n ≤ lc - j)
theorem c_shift (hI : IvC 0 τ σ) : Pt (fun z => (z.2 = σ ∧ ShQ a.toInt c.toInt (σ.1 39 a.toNatClampNeg).toInt (σ.1 39 c.toNatClampNeg).toInt (σ.1 38 a.toNatClampNeg).toInt (σ.1 38 c.toNatClampNeg).toInt (σ.1 40 a.toNatClampNeg).toInt (σ.1 40 c.toNatClampNeg).toInt b.toInt d.toInt n.toInt z.1.toInt) ∨ (ShG a.toInt c.toInt (σ.1 39 a.toNatClampNeg).toInt (σ.1 39 c.toNatClampNeg).toInt (σ.1 40 a.toNatClampNeg).toInt (σ.1 40 c.toNatClampNeg).toInt b.toInt d.toInt n.toInt ∧ z.1 = n ∧ z.2 = ux_L σ (176 + c.toNatClampNeg) (va_cpy (σ.2 (176 + a.toNatClampNeg)) (σ.2 (176 + c.toNatClampNeg)) b.toNatClampNeg d.toNatClampNeg n.toNatClampNeg))) (fX11_shift τ σ a b c d n) := by
  have z0 := i_0
  have y1 := i_m1
  have y11 := i_m11
  have y12 := i_m12
  have y13 := i_m13
  have bad : ∀ x : Int32, ShQ a.toInt c.toInt (σ.1 39 a.toNatClampNeg).toInt (σ.1 39 c.toNatClampNeg).toInt (σ.1 38 a.toNatClampNeg).toInt (σ.1 38 c.toNatClampNeg).toInt (σ.1 40 a.toNatClampNeg).toInt (σ.1 40 c.toNatClampNeg).toInt b.toInt d.toInt n.toInt x.toInt → Pt (fun z => (z.2 = σ ∧ ShQ a.toInt c.toInt (σ.1 39 a.toNatClampNeg).toInt (σ.1 39 c.toNatClampNeg).toInt (σ.1 38 a.toNatClampNeg).toInt (σ.1 38 c.toNatClampNeg).toInt (σ.1 40 a.toNatClampNeg).toInt (σ.1 40 c.toNatClampNeg).toInt b.toInt d.toInt n.toInt z.1.toInt) ∨ (ShG a.toInt c.toInt (σ.1 39 a.toNatClampNeg).toInt (σ.1 39 c.toNatClampNeg).toInt (σ.1 40 a.toNatClampNeg).toInt (σ.1 40 c.toNatClampNeg).toInt b.toInt d.toInt n.toInt ∧ z.1 = n ∧ z.2 = ux_L σ (176 + c.toNatClampNeg) (va_cpy (σ.2 (176 + a.toNatClampNeg)) (σ.2 (176 + c.toNatClampNeg)) b.toNatClampNeg d.toNatClampNeg n.toNatClampNeg))) (some (x, σ)) := fun x h => pt_some (Or.inl ⟨rfl, h⟩)
  unfold fX11_shift fX11_shift_0
  refine pt_bi q_shelf (fun r1 h1 => ?_)
  refine pt_eq (fun g => bad _ (Or.inl (by omega))) (fun g1 => ?_)
  refine pt_bi q_shelf (fun r2 h2 => ?_)
  refine pt_eq (fun g => bad _ (Or.inl (by omega))) (fun g2 => ?_)
  refine pt_bi q_empty (fun r3 h3 => ?_)
  refine pt_eq (fun g3 => ?_) (fun g => bad _ (Or.inr (Or.inl (by omega))))
  refine pt_bi q_empty (fun r4 h4 => ?_)
  refine pt_eq (fun g4 => ?_) (fun g => bad _ (Or.inr (Or.inl (by omega))))
  refine pt_bi q_isRow (fun r5 h5 => ?_)
  refine pt_eq (fun g => bad _ (Or.inr (Or.inr (Or.inl (by omega))))) (fun g5 => ?_)
  refine pt_bi q_isRow (fun r6 h6 => ?_)
  refine pt_eq (fun g => bad _ (Or.inr (Or.inr (Or.inl (by omega))))) (fun g6 => ?_)
  refine pt_ck (fun _ _ _ => pt_nm (fun v e => pt_ck (fun _ _ _ => pt_nm (fun v2 e2 => ?_))))
  subst e; subst e2
  refine pt_eq (fun g7 => ?_) (fun g => bad _ (Or.inr (Or.inr (Or.inl (by omega)))))
  refine pt_bi (q_spans hI) (fun r7 h7 => ?_)
  refine pt_eq (fun g => bad _ (Or.inr (Or.inr (Or.inr (by omega))))) (fun g8 => ?_)
  refine pt_bi (q_spans hI) (fun r8 h8 => ?_)
  refine pt_eq (fun g => bad _ (Or.inr (Or.inr (Or.inr (by omega))))) (fun g9 => ?_)
  refine pt_ck (fun _ _ _ => pt_ck (fun _ _ _ => pt_cpL (fun _ => pt_some (Or.inr ⟨?_, rfl, rfl⟩))))
  unfold ShG
  omega
theorem m_shift_167 {x5 x6 x7 : Int32} (n0 : 0 ≤ x5.toInt) (n1 : x5.toInt ≤ 60) (a0 : 0 ≤ x6.toInt) (a1 : x6.toInt + x5.toInt ≤ 360) (b0 : 0 ≤ x7.toInt) (b1 : x7.toInt + x5.toInt ≤ 360) {f0 : Nat → Int64} {k0 : Nat → Nat → Int32} : ∀ (N : Nat) (σ : S2) (x8 : Int32), 0 ≤ x8.toInt → x8.toInt ≤ x5.toInt → σ.1 = k0 → (∀ t : Nat, σ.2 33 t = if (x7.toInt ≤ x6.toInt ∧ x7.toInt ≤ (t : Int) ∧ (t : Int) < x7.toInt + x8.toInt) ∨ (x6.toInt < x7.toInt ∧ x7.toInt + x5.toInt - x8.toInt ≤ (t : Int) ∧ (t : Int) < x7.toInt + x5.toInt) then f0 (x6.toInt + ((t : Int) - x7.toInt)).toNat else f0 t) → Pt (fun z : Int32 × S2 => z.1 = x5 ∧ z.2.1 = k0 ∧ ∀ t : Nat, z.2.2 33 t = if x7.toInt ≤ (t : Int) ∧ (t : Int) < x7.toInt + x5.toInt then f0 (x6.toInt + ((t : Int) - x7.toInt)).toNat else f0 t) (fX12_shift_167 N σ x5 x6 x7 x8) := by
  have z1 := i_1
  intro N
  induction N with
  | zero => intro σ x8 _ _ _ _; exact pt_none
  | succ N ih =>
    intro σ x8 h0 h1 hs hJ
    have step : ∀ s0 : Int32, 0 ≤ s0.toInt → s0.toInt < x5.toInt → σ.2 33 (x6 + s0).toNatClampNeg = f0 (x6.toInt + s0.toInt).toNat → (∀ t : Nat, (if t = (x7.toInt + s0.toInt).toNat then f0 (x6.toInt + s0.toInt).toNat else σ.2 33 t) = if (x7.toInt ≤ x6.toInt ∧ x7.toInt ≤ (t : Int) ∧ (t : Int) < x7.toInt + (x8.toInt + 1)) ∨ (x6.toInt < x7.toInt ∧ x7.toInt + x5.toInt - (x8.toInt + 1) ≤ (t : Int) ∧ (t : Int) < x7.toInt + x5.toInt) then f0 (x6.toInt + ((t : Int) - x7.toInt)).toNat else f0 t) → x8.toInt + 1 ≤ x5.toInt → Pt (fun z : Int32 × S2 => z.1 = x5 ∧ z.2.1 = k0 ∧ ∀ t : Nat, z.2.2 33 t = if x7.toInt ≤ (t : Int) ∧ (t : Int) < x7.toInt + x5.toInt then f0 (x6.toInt + ((t : Int) - x7.toInt)).toNat else f0 t) (fX12_shift_193 (fX12_shift_167 N) σ x5 x6 x7 x8 s0) := fun s0 q0 q1 hr hw h9 => by
      have ea : (x6 + s0).toInt = x6.toInt + s0.toInt := i32_add (by omega) (by omega)
      have eb : (x7 + s0).toInt = x7.toInt + s0.toInt := i32_add (by omega) (by omega)
      have nb := i32_nat (i := x7 + s0) (by omega)
      unfold fX12_shift_193
      refine pt_ck (fun _ _ _ => pt_nm (fun v e => pt_ck (fun _ _ _ => pt_nm (fun s1 e1 => pt_nm (fun v3 e3 => ?_)))))
      subst e; subst e1
      have e4 : v3.toInt = x8.toInt + 1 := by rw [e3, i32_add (by omega) (by omega)]; omega
      refine ih _ v3 (by omega) (by omega) hs (fun t => ?_)
      rw [e4, ← hw t, hr]
      show (if t = (x7 + s0).toNatClampNeg then f0 (x6.toInt + s0.toInt).toNat else σ.2 33 t) = _
      rw [show (x7 + s0).toNatClampNeg = (x7.toInt + s0.toInt).toNat by omega]
    unfold fX12_shift_167
    refine pt_le (fun h2 => pt_some ⟨rfl, hs, fun t => ?_⟩) (fun h2 => pt_le (fun h3 => ?_) (fun h3 => ?_))
    · show σ.2 33 t = _
      rw [hJ t]
      by_cases c : x7.toInt ≤ (t : Int) ∧ (t : Int) < x7.toInt + x5.toInt
      · rw [if_pos (by omega), if_pos c]
      · rw [if_neg (by omega), if_neg c]
    · refine step x8 h0 (by omega) ?_ (fun t => ?_) (by omega)
      · have ea : (x6 + x8).toInt = x6.toInt + x8.toInt := i32_add (by omega) (by omega)
        have na := i32_nat (i := x6 + x8) (by omega)
        rw [hJ, if_neg (by omega), show (x6 + x8).toNatClampNeg = (x6.toInt + x8.toInt).toNat by omega]
      · by_cases c : t = (x7.toInt + x8.toInt).toNat
        · rw [if_pos c, if_pos (by omega), show x6.toInt + ((t : Int) - x7.toInt) = x6.toInt + x8.toInt by omega]
        · rw [if_neg c, hJ t]
          by_cases c2 : x7.toInt ≤ (t : Int) ∧ (t : Int) < x7.toInt + x8.toInt
          · rw [if_pos (by omega), if_pos (by omega)]
          · rw [if_neg (by omega), if_neg (by omega)]
    · have es : (x5 - 1).toInt = x5.toInt - 1 := by rw [i32_sub (by omega) (by omega)]; omega
      have es2 : (x5 - 1 - x8).toInt = x5.toInt - 1 - x8.toInt := by rw [i32_sub (by omega) (by omega)]; omega
      refine step (x5 - 1 - x8) (by omega) (by omega) ?_ (fun t => ?_) (by omega)
      · have ea : (x6 + (x5 - 1 - x8)).toInt = x6.toInt + (x5 - 1 - x8).toInt := i32_add (by omega) (by omega)
        have na := i32_nat (i := x6 + (x5 - 1 - x8)) (by omega)
        rw [hJ, if_neg (by omega), show (x6 + (x5 - 1 - x8)).toNatClampNeg = (x6.toInt + (x5 - 1 - x8).toInt).toNat by omega]
      · by_cases c : t = (x7.toInt + (x5 - 1 - x8).toInt).toNat
        · rw [if_pos c, if_pos (by omega), show x6.toInt + ((t : Int) - x7.toInt) = x6.toInt + (x5 - 1 - x8).toInt by omega]
        · rw [if_neg c, hJ t]
          by_cases c2 : x7.toInt + x5.toInt - x8.toInt ≤ (t : Int) ∧ (t : Int) < x7.toInt + x5.toInt
          · rw [if_pos (by omega), if_pos (by omega)]
          · rw [if_neg (by omega), if_neg (by omega)]
theorem m_shift (hM : IvM 0 ρ) : Pt (fun z => (z.2 = ρ ∧ ShQ a.toInt c.toInt (ρ.1 31 a.toNatClampNeg).toInt (ρ.1 31 c.toNatClampNeg).toInt (ρ.1 30 a.toNatClampNeg).toInt (ρ.1 30 c.toNatClampNeg).toInt (ρ.1 32 a.toNatClampNeg).toInt (ρ.1 32 c.toNatClampNeg).toInt b.toInt d.toInt n.toInt z.1.toInt) ∨ (ShG a.toInt c.toInt (ρ.1 31 a.toNatClampNeg).toInt (ρ.1 31 c.toNatClampNeg).toInt (ρ.1 32 a.toNatClampNeg).toInt (ρ.1 32 c.toNatClampNeg).toInt b.toInt d.toInt n.toInt ∧ z.1 = n ∧ z.2.1 = ρ.1 ∧ ∀ t : Nat, z.2.2 33 t = if 60 * c.toInt + d.toInt ≤ (t : Int) ∧ (t : Int) < 60 * c.toInt + d.toInt + n.toInt then ρ.2 33 (60 * a.toInt + b.toInt + ((t : Int) - (60 * c.toInt + d.toInt))).toNat else ρ.2 33 t)) (fX12_shift ρ a b c d n) := by
  have z0 := i_0
  have y1 := i_m1
  have y11 := i_m11
  have y12 := i_m12
  have y13 := i_m13
  have ba : -1 ≤ (ρ.1 31 a.toNatClampNeg).toInt ∧ (ρ.1 31 a.toNatClampNeg).toInt ≤ 4 := hM.1 31 _
  have bc : -1 ≤ (ρ.1 31 c.toNatClampNeg).toInt ∧ (ρ.1 31 c.toNatClampNeg).toInt ≤ 4 := hM.1 31 _
  have ka : -1 ≤ (ρ.1 30 a.toNatClampNeg).toInt ∧ (ρ.1 30 a.toNatClampNeg).toInt ≤ 11 := hM.1 30 _
  have kc : -1 ≤ (ρ.1 30 c.toNatClampNeg).toInt ∧ (ρ.1 30 c.toNatClampNeg).toInt ≤ 11 := hM.1 30 _
  have la : 0 ≤ (ρ.1 32 a.toNatClampNeg).toInt ∧ (ρ.1 32 a.toNatClampNeg).toInt ≤ 60 := hM.1 32 _
  have lc : 0 ≤ (ρ.1 32 c.toNatClampNeg).toInt ∧ (ρ.1 32 c.toNatClampNeg).toInt ≤ 60 := hM.1 32 _
  generalize hQ : (fun z : Int32 × S2 => (z.2 = ρ ∧ ShQ a.toInt c.toInt (ρ.1 31 a.toNatClampNeg).toInt (ρ.1 31 c.toNatClampNeg).toInt (ρ.1 30 a.toNatClampNeg).toInt (ρ.1 30 c.toNatClampNeg).toInt (ρ.1 32 a.toNatClampNeg).toInt (ρ.1 32 c.toNatClampNeg).toInt b.toInt d.toInt n.toInt z.1.toInt) ∨ (ShG a.toInt c.toInt (ρ.1 31 a.toNatClampNeg).toInt (ρ.1 31 c.toNatClampNeg).toInt (ρ.1 32 a.toNatClampNeg).toInt (ρ.1 32 c.toNatClampNeg).toInt b.toInt d.toInt n.toInt ∧ z.1 = n ∧ z.2.1 = ρ.1 ∧ ∀ t : Nat, z.2.2 33 t = if 60 * c.toInt + d.toInt ≤ (t : Int) ∧ (t : Int) < 60 * c.toInt + d.toInt + n.toInt then ρ.2 33 (60 * a.toInt + b.toInt + ((t : Int) - (60 * c.toInt + d.toInt))).toNat else ρ.2 33 t)) = Q
  have bad : ∀ x : Int32, ShQ a.toInt c.toInt (ρ.1 31 a.toNatClampNeg).toInt (ρ.1 31 c.toNatClampNeg).toInt (ρ.1 30 a.toNatClampNeg).toInt (ρ.1 30 c.toNatClampNeg).toInt (ρ.1 32 a.toNatClampNeg).toInt (ρ.1 32 c.toNatClampNeg).toInt b.toInt d.toInt n.toInt x.toInt → Pt Q (some (x, ρ)) := fun x h => pt_some (by rw [← hQ]; exact Or.inl ⟨rfl, h⟩)
  unfold fX12_shift fX12_shift_0
  refine pt_bi q_shelfM (fun r1 h1 => ?_)
  refine pt_eq (fun g => bad _ (Or.inl (by omega))) (fun g1 => ?_)
  refine pt_bi q_shelfM (fun r2 h2 => ?_)
  refine pt_eq (fun g => bad _ (Or.inl (by omega))) (fun g2 => ?_)
  have p55 : ¬ ((ρ.1 31 a.toNatClampNeg).toInt = -1 ∧ (ρ.1 30 a.toNatClampNeg).toInt = -1) → ¬ ((ρ.1 31 c.toNatClampNeg).toInt = -1 ∧ (ρ.1 30 c.toNatClampNeg).toInt = -1) → Pt Q (fX12_shift_55 ρ a b c d n) := fun w1 w2 => by
    unfold fX12_shift_55
    refine pt_ck (fun _ _ _ => pt_nm (fun v e => ?_))
    subst e
    refine pt_lt (fun g => bad _ (Or.inr (Or.inr (Or.inl (by omega))))) (fun g3 => ?_)
    refine pt_ck (fun _ _ _ => pt_nm (fun v e => pt_ck (fun _ _ _ => pt_nm (fun v2 e2 => ?_))))
    subst e; subst e2
    refine pt_eq (fun g4 => ?_) (fun g => bad _ (Or.inr (Or.inr (Or.inl (by omega)))))
    refine pt_lt (fun g => bad _ (Or.inr (Or.inr (Or.inr (by omega))))) (fun g5 => ?_)
    refine pt_lt (fun g => bad _ (Or.inr (Or.inr (Or.inr (by omega))))) (fun g6 => ?_)
    refine pt_lt (fun g => bad _ (Or.inr (Or.inr (Or.inr (by omega))))) (fun g7 => ?_)
    refine pt_ck (fun _ _ _ => pt_nm (fun v e => ?_))
    subst e
    refine pt_lt (fun g => bad _ (Or.inr (Or.inr (Or.inr (by omega))))) (fun g8 => ?_)
    refine pt_ck (fun _ _ _ => pt_nm (fun v e => ?_))
    subst e
    refine pt_lt (fun g => bad _ (Or.inr (Or.inr (Or.inr (by omega))))) (fun g9 => ?_)
    refine pt_ck (fun _ _ _ => pt_nm (fun v e => ?_))
    subst e
    have es : (ρ.1 32 a.toNatClampNeg - b).toInt = (ρ.1 32 a.toNatClampNeg).toInt - b.toInt := i32_sub (by omega) (by omega)
    have es2 : (ρ.1 32 c.toNatClampNeg - d).toInt = (ρ.1 32 c.toNatClampNeg).toInt - d.toInt := i32_sub (by omega) (by omega)
    refine pt_lt (fun g => bad _ (Or.inr (Or.inr (Or.inr (by omega))))) (fun g10 => ?_)
    refine pt_ck (fun _ _ _ => pt_nm (fun v e => ?_))
    subst e
    refine pt_le (fun g11 => ?_) (fun g => bad _ (Or.inr (Or.inr (Or.inr (by omega)))))
    refine pt_nm (fun v e => pt_nm (fun v2 e2 => ?_))
    have i1 := (el_ix (a := a) (i := b) (by omega) (by omega) (by omega) (by omega)).1
    have i2 := (el_ix (a := c) (i := d) (by omega) (by omega) (by omega) (by omega)).1
    rw [← e] at i1
    rw [← e2] at i2
    refine pt_mono (m_shift_167 (x5 := n) (x6 := v) (x7 := v2) (by omega) (by omega) (by omega) (by omega) (by omega) (by omega) (f0 := ρ.2 33) (k0 := ρ.1) FU ρ 0 (by decide) (by omega) rfl (fun t => ?_)) (fun z hz => ?_)
    · rw [if_neg (by omega)]
    · rw [← hQ]
      refine Or.inr ⟨?_, hz.1, hz.2.1, fun t => ?_⟩
      · unfold ShG; omega
      · rw [hz.2.2 t, i1, i2]
  have p34 : ¬ ((ρ.1 31 a.toNatClampNeg).toInt = -1 ∧ (ρ.1 30 a.toNatClampNeg).toInt = -1) → Pt Q (fX12_shift_34 ρ a b c d n) := fun w1 => by
    unfold fX12_shift_34
    refine pt_ck (fun _ _ _ => pt_nm (fun v e => ?_))
    subst e
    refine pt_le (fun g => p55 w1 (by omega)) (fun g3 => ?_)
    refine pt_ck (fun _ _ _ => pt_nm (fun v e => ?_))
    subst e
    exact pt_le (fun g => p55 w1 (by omega)) (fun g => bad _ (Or.inr (Or.inl (by omega))))
  refine pt_ck (fun _ _ _ => pt_nm (fun v e => ?_))
  subst e
  refine pt_le (fun g => p34 (by omega)) (fun g3 => ?_)
  refine pt_ck (fun _ _ _ => pt_nm (fun v e => ?_))
  subst e
  exact pt_lt (fun g => bad _ (Or.inr (Or.inl (by omega)))) (fun g => p34 (by omega))
theorem st_shift (hR : RelA σ ρ) (hI : IvC 0 τ σ) (hM : IvM 0 ρ) (h : fX11_shift τ σ a b c d n = some (r, σ')) (h2 : fX12_shift ρ a b c d n = some (q, ρ')) : r = q ∧ RelA σ' ρ' := by
  have p1 := c_shift (a := a) (b := b) (c := c) (d := d) (n := n) hI _ h
  have p2 := m_shift (a := a) (b := b) (c := c) (d := d) (n := n) hM _ h2
  obtain ⟨hk, hF, hA, hS, hE⟩ := hR
  have fc := wfX11_shift (m := 4194304) rfl τ σ a b c d n (Fr.rf σ) _ h
  have fm := wfX12_shift (m := 4194304) rfl ρ a b c d n (Fr.rf ρ) _ h2
  have la : 0 ≤ (σ.1 40 a.toNatClampNeg).toInt ∧ (σ.1 40 a.toNatClampNeg).toInt ≤ 60 := hI.1 40 _
  have lc : 0 ≤ (σ.1 40 c.toNatClampNeg).toInt ∧ (σ.1 40 c.toNatClampNeg).toInt ≤ 60 := hI.1 40 _
  have same : (0 ≤ a.toInt ∧ a.toInt ≤ 5) ∧ (0 ≤ c.toInt ∧ c.toInt ≤ 5) → (ρ.1 31 a.toNatClampNeg).toInt = (σ.1 39 a.toNatClampNeg).toInt ∧ (ρ.1 31 c.toNatClampNeg).toInt = (σ.1 39 c.toNatClampNeg).toInt ∧ (ρ.1 30 a.toNatClampNeg).toInt = (σ.1 38 a.toNatClampNeg).toInt ∧ (ρ.1 30 c.toNatClampNeg).toInt = (σ.1 38 c.toNatClampNeg).toInt ∧ ((σ.1 39 a.toNatClampNeg).toInt ≠ -1 → (ρ.1 32 a.toNatClampNeg).toInt = (σ.1 40 a.toNatClampNeg).toInt) ∧ ((σ.1 39 c.toNatClampNeg).toInt ≠ -1 → (ρ.1 32 c.toNatClampNeg).toInt = (σ.1 40 c.toNatClampNeg).toInt) := fun w => by
    have n1 := i32_nat w.1.1
    have n2 := i32_nat w.2.1
    obtain ⟨s1, s2, s3, _⟩ := hS a.toNatClampNeg (by omega)
    obtain ⟨t1, t2, t3, _⟩ := hS c.toNatClampNeg (by omega)
    refine ⟨by rw [s2], by rw [t2], by rw [s1], by rw [t1], fun w => ?_, fun w => ?_⟩
    · rw [(s3 (fun e => w (by rw [e]; rfl))).1]
    · rw [(t3 (fun e => w (by rw [e]; rfl))).1]
  unfold ShQ ShG at p1 p2
  rcases p1 with ⟨e, p1⟩ | ⟨g, e, e2⟩ <;> rcases p2 with ⟨d2, p2⟩ | ⟨f, d2, d3, d4⟩
  · have e : σ' = σ := e
    have d2 : ρ' = ρ := d2
    subst e; subst d2
    refine ⟨Int32.toInt_inj.mp ?_, hk, hF, hA, hS, hE⟩
    by_cases w : (0 ≤ a.toInt ∧ a.toInt ≤ 5) ∧ (0 ≤ c.toInt ∧ c.toInt ≤ 5)
    · have same := same w
      show r.toInt = q.toInt
      have p1 : (r.toInt = -1 ∧ _) ∨ (r.toInt = -11 ∧ _) ∨ (r.toInt = -12 ∧ _) ∨ (r.toInt = -13 ∧ _) := p1
      have p2 : (q.toInt = -1 ∧ _) ∨ (q.toInt = -11 ∧ _) ∨ (q.toInt = -12 ∧ _) ∨ (q.toInt = -13 ∧ _) := p2
      omega
    · have p1 : (r.toInt = -1 ∧ _) ∨ (r.toInt = -11 ∧ _) ∨ (r.toInt = -12 ∧ _) ∨ (r.toInt = -13 ∧ _) := p1
      have p2 : (q.toInt = -1 ∧ _) ∨ (q.toInt = -11 ∧ _) ∨ (q.toInt = -12 ∧ _) ∨ (q.toInt = -13 ∧ _) := p2
      show r.toInt = q.toInt
      omega
  · exfalso; have same := same f.1; omega
  · exfalso; have same := same g.1; omega
  · refine ⟨Eq.trans e (Eq.symm d2), hk.fr fc fm rfl rfl rfl rfl rfl rfl rfl rfl, hF.fr fc fm rfl rfl, hA.fr fc fm rfl rfl, hS.fr fc fm rfl rfl (by rw [(fc 7 5 rfl).1]; exact Int.le_refl _), fun s t hs ht => ?_⟩
    have e2 : σ' = _ := e2
    have d4 : ρ'.2 33 (60 * s + t) = _ := d4 (60 * s + t)
    have na := i32_nat g.1.1.1
    have nc := i32_nat g.1.2.1
    have nb := i32_nat (i := b) (by omega)
    have nd := i32_nat (i := d) (by omega)
    have nn := i32_nat (i := n) (by omega)
    rw [d4, e2]
    show _ = (if 176 + s = 176 + c.toNatClampNeg then va_cpy (σ.2 (176 + a.toNatClampNeg)) (σ.2 (176 + c.toNatClampNeg)) b.toNatClampNeg d.toNatClampNeg n.toNatClampNeg else σ.2 (176 + s)) t
    by_cases k1 : s = c.toNatClampNeg
    · rw [if_pos (c := 176 + s = 176 + c.toNatClampNeg) (by omega)]
      show _ = (if d.toNatClampNeg ≤ t ∧ t < d.toNatClampNeg + n.toNatClampNeg then σ.2 (176 + a.toNatClampNeg) (b.toNatClampNeg + (t - d.toNatClampNeg)) else σ.2 (176 + c.toNatClampNeg) t)
      by_cases k2 : d.toNatClampNeg ≤ t ∧ t < d.toNatClampNeg + n.toNatClampNeg
      · rw [if_pos k2, if_pos (by omega), ← hE a.toNatClampNeg (b.toNatClampNeg + (t - d.toNatClampNeg)) (by omega) (by omega)]
        exact congrArg (ρ.2 33) (by omega)
      · rw [if_neg k2, if_neg (by omega), k1]; exact hE _ _ (by omega) ht
    · rw [if_neg (c := 176 + s = 176 + c.toNatClampNeg) (by omega), if_neg (by omega)]; exact hE _ _ hs ht
end SHIFT
end
section
/-! taken and lies -/
section LAST
variable {σ ρ : S2} {τ : Nat} {a b c d r q : Int32}
theorem iu_step {n : Nat} {k v w x3 : Int32} (h0 : 0 ≤ v.toInt) (h6 : v.toInt ≤ 6) (h3 : x3.toInt < 7) (hw : kaI v.toNatClampNeg = w) : fX11_isUnder_4 τ (n + 1) σ k v x3 = if v = k then some 1 else fX11_isUnder_4 τ n σ k w (x3 + 1) := by
  have z0 := i_0
  have z7 : (7 : Int32).toInt = 7 := rfl
  have e1 : ¬ (7 : Int32) ≤ x3 := fun q => by have := Int32.le_iff_toInt_le.mp q; omega
  have e2 : ¬ v < 0 := fun q => by have := Int32.lt_iff_toInt_lt.mp q; omega
  have e3 : ¬ (7 : Int32) ≤ v := fun q => by have := Int32.le_iff_toInt_le.mp q; omega
  have nv := i32_nat h0
  have c7 : ∀ {K : Option Int32}, ck 7 v K = K := fun {K} => by
    unfold ck
    rw [if_neg (fun q => q.elim e2 (fun q => by omega))]
  rw [show fX11_isUnder_4 τ (n + 1) σ k v x3 = (if 7 ≤ x3 then some (0) else if v < 0 then some (0) else if 7 ≤ v then some (0) else if v = k then some (1) else ck 7 v (nm (kaI (Int32.toNatClampNeg v)) (fun v1 => nm (x3 + 1) (fun v2 => fX11_isUnder_4 τ n σ k v1 v2)))) from rfl, if_neg e1, if_neg e2, if_neg e3, c7, hw]
  rfl
theorem iu_end {n : Nat} {k x3 : Int32} (h3 : x3.toInt < 7) : fX11_isUnder_4 τ (n + 1) σ k (-1) x3 = some 0 := by
  have z7 : (7 : Int32).toInt = 7 := rfl
  have e1 : ¬ (7 : Int32) ≤ x3 := fun q => by have := Int32.le_iff_toInt_le.mp q; omega
  rw [show fX11_isUnder_4 τ (n + 1) σ k (-1) x3 = (if 7 ≤ x3 then some (0) else if (-1 : Int32) < 0 then some (0) else if 7 ≤ (-1 : Int32) then some (0) else if (-1 : Int32) = k then some (1) else ck 7 (-1) (nm (kaI (Int32.toNatClampNeg (-1))) (fun v1 => nm (x3 + 1) (fun v2 => fX11_isUnder_4 τ n σ k v1 v2)))) from rfl, if_neg e1, if_pos (by decide)]
/-- a kind is under k: itself, k = 0, or FULL under STRONG -/
theorem iu {k v : Int32} (h0 : 0 ≤ v.toInt) (h6 : v.toInt ≤ 6) : fX11_isUnder τ σ v k = some (if k = 0 ∨ k = v ∨ (k = 1 ∧ v = 6) then 1 else 0) := by
  have z0 := i_0
  have tail : ∀ (n : Nat) (x3 : Int32), x3.toInt < 5 → 0 ≤ x3.toInt → fX11_isUnder_4 τ (n + 2) σ k 0 x3 = some (if k = 0 then 1 else 0) := fun n x3 h5 h9 => by
    have z1 := i_1
    have e4 : (x3 + 1).toInt = x3.toInt + 1 := by rw [i32_add (by omega) (by omega)]; omega
    rw [iu_step (w := -1) (by decide) (by decide) (by omega) rfl, iu_end (by omega)]
    by_cases c : k = 0
    · rw [if_pos c, if_pos c.symm]
    · rw [if_neg c, if_neg (fun q => c q.symm)]
  have mid : ∀ (n : Nat) (x3 : Int32), x3.toInt < 4 → 0 ≤ x3.toInt → ∀ u : Int32, 1 ≤ u.toInt → u.toInt ≤ 5 → kaI u.toNatClampNeg = 0 → fX11_isUnder_4 τ (n + 3) σ k u x3 = some (if k = 0 ∨ k = u then 1 else 0) := fun n x3 h5 h9 u u1 u5 hu => by
    have z1 := i_1
    have e4 : (x3 + 1).toInt = x3.toInt + 1 := by rw [i32_add (by omega) (by omega)]; omega
    rw [iu_step (w := 0) (by omega) (by omega) (by omega) hu, tail n (x3 + 1) (by omega) (by omega)]
    by_cases c : u = k
    · rw [if_pos c, if_pos (Or.inr c.symm)]
    · rw [if_neg c]
      by_cases c2 : k = 0
      · rw [if_pos c2, if_pos (Or.inl c2)]
      · rw [if_neg c2, if_neg (fun q => q.elim c2 (fun q => c q.symm))]
  have hv : v = 0 ∨ (1 ≤ v.toInt ∧ v.toInt ≤ 5 ∧ kaI v.toNatClampNeg = 0) ∨ v = 6 := by
    have i3 : (3 : Int32).toInt = 3 := rfl
    have : v.toInt = 0 ∨ v.toInt = 1 ∨ v.toInt = 2 ∨ v.toInt = 3 ∨ v.toInt = 4 ∨ v.toInt = 5 ∨ v.toInt = 6 := by omega
    rcases this with h | h | h | h | h | h | h
    · exact Or.inl (Int32.toInt_inj.mp h)
    · have : v = 1 := Int32.toInt_inj.mp h
      subst this; exact Or.inr (Or.inl ⟨by decide, by decide, rfl⟩)
    · have : v = 2 := Int32.toInt_inj.mp h
      subst this; exact Or.inr (Or.inl ⟨by decide, by decide, rfl⟩)
    · have : v = 3 := Int32.toInt_inj.mp h
      subst this; exact Or.inr (Or.inl ⟨by decide, by decide, rfl⟩)
    · have : v = 4 := Int32.toInt_inj.mp h
      subst this; exact Or.inr (Or.inl ⟨by decide, by decide, rfl⟩)
    · have : v = 5 := Int32.toInt_inj.mp h
      subst this; exact Or.inr (Or.inl ⟨by decide, by decide, rfl⟩)
    · exact Or.inr (Or.inr (Int32.toInt_inj.mp h))
  show fX11_isUnder_4 τ (99996 + 4) σ k v 0 = _
  rcases hv with h | h | h
  · subst h
    rw [show (99996 + 4 : Nat) = 99998 + 2 from rfl, tail _ _ (by decide) (by decide)]
    by_cases c : k = 0
    · rw [if_pos c, if_pos (Or.inl c)]
    · rw [if_neg c, if_neg (fun q => q.elim c (fun q => q.elim c (fun q => absurd q.2 (by decide))))]
  · have n6 : v ≠ 6 := fun q => by rw [q] at h; exact absurd h.2.1 (by decide)
    rw [show (99996 + 4 : Nat) = 99997 + 3 from rfl, mid _ _ (by decide) (by decide) v h.1 h.2.1 h.2.2]
    by_cases c : k = 0 ∨ k = v
    · rw [if_pos c, if_pos (c.elim Or.inl (fun q => Or.inr (Or.inl q)))]
    · rw [if_neg c, if_neg (fun q => q.elim (fun q => c (Or.inl q)) (fun q => q.elim (fun q => c (Or.inr q)) (fun q => n6 q.2)))]
  · subst h
    rw [show (99996 + 4 : Nat) = (99996 + 3) + 1 from rfl, iu_step (w := 1) (by decide) (by decide) (by decide) rfl, mid _ _ (by decide) (by decide) 1 (by decide) (by decide) rfl]
    by_cases c : (6 : Int32) = k
    · rw [if_pos c, if_pos (Or.inr (Or.inl c.symm))]
    · rw [if_neg c]
      by_cases c2 : k = 0 ∨ k = 1
      · rw [if_pos c2, if_pos (c2.elim Or.inl (fun q => Or.inr (Or.inr ⟨q, rfl⟩)))]
      · rw [if_neg c2, if_neg (fun q => q.elim (fun q => c2 (Or.inl q)) (fun q => q.elim (fun q => c q.symm) (fun q => c2 (Or.inr q.1))))]
theorem an_taken (hR : RelA σ ρ) (hI : IvC 0 τ σ) (hM : IvM 0 ρ) (h : fX11_taken τ σ a b = some r) (h2 : fX12_taken ρ a b = some q) : r = q := by
  have z0 := i_0
  have z6 := i_6
  obtain ⟨hk, hF, hA, hS, hE⟩ := hR
  unfold fX11_taken fX11_taken_0 at h
  unfold fX12_taken fX12_taken_0 at h2
  obtain ⟨r1, e1, h⟩ := biS h
  obtain ⟨r2, e2, h2⟩ := biS h2
  have e1 := q_shelf _ e1
  have e2 := q_shelfM _ e2
  by_cases c1 : r1 = 0
  · have c1' : r1.toInt = 0 := by rw [c1]; rfl
    have c2 : r2 = 0 := Int32.toInt_inj.mp (by rw [z0]; omega)
    rw [if_pos c1] at h; rw [if_pos c2] at h2
    cases h; cases h2; rfl
  have c1' : r1.toInt ≠ 0 := fun w => c1 (Int32.toInt_inj.mp w)
  have c2 : ¬ r2 = 0 := fun w => by rw [w] at e2; omega
  rw [if_neg c1] at h; rw [if_neg c2] at h2
  have sa : 0 ≤ a.toInt ∧ a.toInt ≤ 5 := by omega
  obtain ⟨r3, e3, h⟩ := biS h
  obtain ⟨r4, e4, h2⟩ := biS h2
  have e3 := q_kind _ e3
  have e4 := q_in _ e4
  by_cases c3 : r3 = 0
  · have c3' : r3.toInt = 0 := by rw [c3]; rfl
    have c4 : r4 = 0 := Int32.toInt_inj.mp (by rw [z0]; omega)
    rw [if_pos c3] at h; rw [if_pos c4] at h2
    cases h; cases h2; rfl
  have c3' : r3.toInt ≠ 0 := fun w => c3 (Int32.toInt_inj.mp w)
  have c4 : ¬ r4 = 0 := fun w => by rw [w] at e4; omega
  rw [if_neg c3] at h; rw [if_neg c4] at h2
  have na := i32_nat sa.1
  obtain ⟨s1, s2, s3, s4⟩ := hS a.toNatClampNeg (by omega)
  have b39 : -1 ≤ (σ.1 39 a.toNatClampNeg).toInt ∧ (σ.1 39 a.toNatClampNeg).toInt ≤ 4 := hI.1 39 _
  have b38 : -1 ≤ (σ.1 38 a.toNatClampNeg).toInt ∧ (σ.1 38 a.toNatClampNeg).toInt ≤ 11 := by have := hM.1 30 a.toNatClampNeg; rw [s1] at this; exact this
  obtain ⟨r5, e5, h⟩ := biS h
  have e5 := q_empty _ e5
  obtain ⟨_, h2⟩ := ckS h2
  have h2 : (if 0 ≤ ρ.1 31 a.toNatClampNeg then fX12_taken_40 ρ a b else ck 6 a (nm (ρ.1 30 a.toNatClampNeg) (fun v9 => if 0 ≤ v9 then fX12_taken_40 ρ a b else some (-11)))) = some q := h2
  have s3' : (σ.1 39 a.toNatClampNeg).toInt ≠ -1 → (σ.1 38 a.toNatClampNeg).toInt = -1 := fun w => by
    rw [(s3 (fun e => w (by rw [e]; rfl))).2]; rfl
  rw [s2] at h2
  by_cases c5 : r5 = 0
  · rw [if_pos c5] at h
    have c5' : r5.toInt = 0 := by rw [c5]; rfl
    have h40 : fX12_taken_40 ρ a b = some q := by
      by_cases k : (0 : Int32) ≤ σ.1 39 a.toNatClampNeg
      · rw [if_pos k] at h2; exact h2
      · rw [if_neg k] at h2
        have k' : ¬ 0 ≤ (σ.1 39 a.toNatClampNeg).toInt := fun w => k (Int32.le_iff_toInt_le.mpr w)
        obtain ⟨_, h2⟩ := ckS h2
        have h2 : (if 0 ≤ ρ.1 30 a.toNatClampNeg then fX12_taken_40 ρ a b else some (-11)) = some q := h2
        rw [s1, if_pos (Int32.le_iff_toInt_le.mpr (by rw [z0]; omega))] at h2
        exact h2
    unfold fX12_taken_40 fX12_taken_84 at h40
    obtain ⟨_, h40⟩ := ckS h40
    obtain ⟨_, h⟩ := ckS h
    have h40 : (if 0 ≤ ρ.1 30 a.toNatClampNeg then ck 6 a (nm (ρ.1 30 a.toNatClampNeg) (fun v2 => ck 12 v2 (nm (ρ.1 5 v2.toNatClampNeg) (fun v3 => if b = 0 then some v3 else if b = v3 then some v3 else if b = 1 then if v3 = 6 then some v3 else some (-12) else some (-12))))) else some (-12)) = some q := h40
    have h : bi (fX2_has τ σ (σ.1 38 a.toNatClampNeg)) (fun r8 => if r8 = 0 then some (-12) else ck 12 (σ.1 38 a.toNatClampNeg) (nm (σ.1 8 (σ.1 38 a.toNatClampNeg).toNatClampNeg) (fun v10 => bi (fX11_isUnder τ σ v10 b) (fun r11 => if r11 = 0 then some (-12) else some v10)))) = some r := h
    obtain ⟨r6, e6, h⟩ := biS h
    have e6 := q_has _ e6
    rw [s1] at h40
    by_cases k : (0 : Int32) ≤ σ.1 38 a.toNatClampNeg
    · have k' := Int32.le_iff_toInt_le.mp k
      rw [z0] at k'
      have c6 : ¬ r6 = 0 := fun w => by rw [w] at e6; omega
      rw [if_neg c6] at h
      rw [if_pos k] at h40
      obtain ⟨_, h⟩ := ckS h
      have h : bi (fX11_isUnder τ σ (σ.1 8 (σ.1 38 a.toNatClampNeg).toNatClampNeg) b) (fun r11 => if r11 = 0 then some (-12) else some (σ.1 8 (σ.1 38 a.toNatClampNeg).toNatClampNeg)) = some r := h
      obtain ⟨_, h40⟩ := ckS h40
      have h40 : ck 12 (σ.1 38 a.toNatClampNeg) (nm (ρ.1 5 (σ.1 38 a.toNatClampNeg).toNatClampNeg) (fun v3 => if b = 0 then some v3 else if b = v3 then some v3 else if b = 1 then if v3 = 6 then some v3 else some (-12) else some (-12))) = some q := h40
      obtain ⟨_, h40⟩ := ckS h40
      have h40 : (if b = 0 then some (ρ.1 5 (σ.1 38 a.toNatClampNeg).toNatClampNeg) else if b = ρ.1 5 (σ.1 38 a.toNatClampNeg).toNatClampNeg then some (ρ.1 5 (σ.1 38 a.toNatClampNeg).toNatClampNeg) else if b = 1 then if ρ.1 5 (σ.1 38 a.toNatClampNeg).toNatClampNeg = 6 then some (ρ.1 5 (σ.1 38 a.toNatClampNeg).toNatClampNeg) else some (-12) else some (-12)) = some q := h40
      rw [hk.2.1] at h40
      have bk : 0 ≤ (σ.1 8 (σ.1 38 a.toNatClampNeg).toNatClampNeg).toInt ∧ (σ.1 8 (σ.1 38 a.toNatClampNeg).toNatClampNeg).toInt ≤ 6 := hI.1 8 _
      generalize σ.1 8 (σ.1 38 a.toNatClampNeg).toNatClampNeg = v at h h40 bk
      rw [iu bk.1 bk.2] at h
      have h : (if (if b = 0 ∨ b = v ∨ (b = 1 ∧ v = 6) then (1 : Int32) else 0) = 0 then some (-12) else some v) = some r := h
      by_cases k0 : b = 0
      · rw [if_pos k0] at h40
        rw [if_pos (Or.inl k0), if_neg (by decide)] at h
        cases h; cases h40; rfl
      rw [if_neg k0] at h40
      by_cases k1 : b = v
      · rw [if_pos k1] at h40
        rw [if_pos (Or.inr (Or.inl k1)), if_neg (by decide)] at h
        cases h; cases h40; rfl
      rw [if_neg k1] at h40
      by_cases k2 : b = 1
      · rw [if_pos k2] at h40
        by_cases k3 : v = 6
        · rw [if_pos k3] at h40
          rw [if_pos (Or.inr (Or.inr ⟨k2, k3⟩)), if_neg (by decide)] at h
          cases h; cases h40; rfl
        · rw [if_neg k3] at h40
          rw [if_neg (show ¬ (b = 0 ∨ b = v ∨ (b = 1 ∧ v = 6)) from fun w => w.elim k0 (fun w => w.elim k1 (fun w => k3 w.2))), if_pos rfl] at h
          cases h; cases h40; rfl
      · rw [if_neg k2] at h40
        rw [if_neg (show ¬ (b = 0 ∨ b = v ∨ (b = 1 ∧ v = 6)) from fun w => w.elim k0 (fun w => w.elim k1 (fun w => k2 w.1))), if_pos rfl] at h
        cases h; cases h40; rfl
    · have k' : ¬ 0 ≤ (σ.1 38 a.toNatClampNeg).toInt := fun w => k (Int32.le_iff_toInt_le.mpr w)
      rw [if_neg k] at h40
      have c6 : r6 = 0 := Int32.toInt_inj.mp (by rw [z0]; omega)
      rw [if_pos c6] at h
      cases h; cases h40; rfl
  · rw [if_neg c5] at h
    have c5' : r5.toInt ≠ 0 := fun w => c5 (Int32.toInt_inj.mp w)
    rw [if_neg (fun w => by have := Int32.le_iff_toInt_le.mp w; omega)] at h2
    obtain ⟨_, h2⟩ := ckS h2
    have h2 : (if 0 ≤ ρ.1 30 a.toNatClampNeg then fX12_taken_40 ρ a b else some (-11)) = some q := h2
    rw [s1, if_neg (fun w => by have := Int32.le_iff_toInt_le.mp w; omega)] at h2
    cases h; cases h2; rfl
theorem an_lies (hR : RelA σ ρ) (hM : IvM 0 ρ) (h : fX11_lies τ σ a b c d = some r) (h2 : fX12_lies ρ a b c d = some q) : r = q := by
  have z0 := i_0
  have z1 := i_1
  have z99 : (99 : Int32).toInt = 99 := rfl
  have y1 := i_m1
  obtain ⟨hk, hF, hA, hS, hE⟩ := hR
  have p1 : Pt (fun r => (r.toInt = -1 ∧ ¬ ((0 ≤ a.toInt ∧ a.toInt < (σ.1 7 5).toInt) ∧ (0 ≤ b.toInt ∧ b.toInt ≤ c.toInt) ∧ (1 ≤ c.toInt ∧ c.toInt ≤ 99) ∧ (0 ≤ d.toInt ∧ d.toInt ≤ 1))) ∨ (((0 ≤ a.toInt ∧ a.toInt < (σ.1 7 5).toInt) ∧ (0 ≤ b.toInt ∧ b.toInt ≤ c.toInt) ∧ (1 ≤ c.toInt ∧ c.toInt ≤ 99) ∧ (0 ≤ d.toInt ∧ d.toInt ≤ 1)) ∧ r = (if d = 0 then (if 1 < (((σ.1 10 a.toNatClampNeg * (c - b)) + c - 1) / c) then (((σ.1 10 a.toNatClampNeg * (c - b)) + c - 1) / c) else 1) else 4 * (σ.1 10 a.toNatClampNeg - (if 1 < (((σ.1 10 a.toNatClampNeg * (c - b)) + c - 1) / c) then (((σ.1 10 a.toNatClampNeg * (c - b)) + c - 1) / c) else 1))))) (fX11_lies τ σ a b c d) := by
    unfold fX11_lies fX11_lies_0
    refine pt_bi q_has (fun r1 h1 => ?_)
    refine pt_eq (fun g => pt_some (Or.inl ⟨y1, by omega⟩)) (fun g1 => ?_)
    refine pt_lt (fun g => pt_some (Or.inl ⟨y1, by omega⟩)) (fun g2 => ?_)
    refine pt_lt (fun g => pt_some (Or.inl ⟨y1, by omega⟩)) (fun g3 => ?_)
    refine pt_le (fun g4 => ?_) (fun g => pt_some (Or.inl ⟨y1, by omega⟩))
    refine pt_lt (fun g => pt_some (Or.inl ⟨y1, by omega⟩)) (fun g5 => ?_)
    refine pt_lt (fun g => pt_some (Or.inl ⟨y1, by omega⟩)) (fun g6 => ?_)
    refine pt_le (fun g7 => ?_) (fun g => pt_some (Or.inl ⟨y1, by omega⟩))
    refine pt_ck (fun _ _ _ => pt_nm (fun v e => ?_))
    subst e
    refine pt_bi (P := fun r => r = (((σ.1 10 a.toNatClampNeg * (c - b)) + c - 1) / c)) ?_ (fun r4 e4 => ?_)
    · unfold fX11_upward fX11_upward_0
      refine pt_le (fun g => absurd g (by omega)) (fun g => ?_)
      exact pt_dz (fun _ => pt_some rfl)
    · subst e4
      refine pt_nm (fun v e => ?_)
      subst e
      refine pt_if (fun k => pt_some (Or.inr ⟨by omega, ?_⟩)) (fun k => pt_some (Or.inr ⟨by omega, ?_⟩))
      · rw [if_pos k]
      · rw [if_neg k]
  have p2 : Pt (fun r => (r.toInt = -1 ∧ ¬ ((0 ≤ a.toInt ∧ a.toInt < (ρ.1 0 3).toInt) ∧ (0 ≤ b.toInt ∧ b.toInt ≤ c.toInt) ∧ (1 ≤ c.toInt ∧ c.toInt ≤ 99) ∧ (0 ≤ d.toInt ∧ d.toInt ≤ 1))) ∨ (((0 ≤ a.toInt ∧ a.toInt < (ρ.1 0 3).toInt) ∧ (0 ≤ b.toInt ∧ b.toInt ≤ c.toInt) ∧ (1 ≤ c.toInt ∧ c.toInt ≤ 99) ∧ (0 ≤ d.toInt ∧ d.toInt ≤ 1)) ∧ r = (if d = 0 then (if 1 < (((ρ.1 4 a.toNatClampNeg * (c - b)) + c - 1) / c) then (((ρ.1 4 a.toNatClampNeg * (c - b)) + c - 1) / c) else 1) else 4 * (ρ.1 4 a.toNatClampNeg - (if 1 < (((ρ.1 4 a.toNatClampNeg * (c - b)) + c - 1) / c) then (((ρ.1 4 a.toNatClampNeg * (c - b)) + c - 1) / c) else 1))))) (fX12_lies ρ a b c d) := by
    unfold fX12_lies fX12_lies_0
    refine pt_bi (q_keeperM hM) (fun r1 h1 => ?_)
    refine pt_eq (fun g => pt_some (Or.inl ⟨y1, by omega⟩)) (fun g1 => ?_)
    refine pt_bi q_in (fun r2 h2 => ?_)
    refine pt_eq (fun g => ?_) (fun g2 => ?_)
    · refine pt_some (Or.inl ⟨y1, by omega⟩)
    refine pt_bi q_in (fun r3 h3 => ?_)
    refine pt_eq (fun g => pt_some (Or.inl ⟨y1, by omega⟩)) (fun g3 => ?_)
    refine pt_lt (fun g => pt_some (Or.inl ⟨y1, by omega⟩)) (fun g4 => ?_)
    refine pt_bi q_in (fun r4 h4 => ?_)
    refine pt_eq (fun g => pt_some (Or.inl ⟨y1, by omega⟩)) (fun g5 => ?_)
    refine pt_ck (fun _ _ _ => pt_nm (fun v e => ?_))
    subst e
    refine pt_dz (fun _ => pt_nm (fun v e => ?_))
    have k75 : ∀ s0 : Int32, Pt (fun r => r = if d = 0 then s0 else 4 * (ρ.1 4 a.toNatClampNeg - s0)) (fX12_lies_75 ρ a d s0) := fun s0 => by
      unfold fX12_lies_75
      refine pt_if (fun k => pt_some ?_) (fun k => pt_ck (fun _ _ _ => pt_nm (fun v e => pt_some ?_)))
      · rw [if_pos k]
      · rw [if_neg k, e]
    have hv : (if 1 < v then v else 1) = (if 1 ≤ v then v else 1) := by
      by_cases k : 1 ≤ v
      · rw [if_pos k]
        by_cases k2 : 1 < v
        · rw [if_pos k2]
        · rw [if_neg k2]
          have a1 := Int32.le_iff_toInt_le.mp k
          have a2 : ¬ (1 : Int32).toInt < v.toInt := fun w => k2 (Int32.lt_iff_toInt_lt.mpr w)
          exact Int32.toInt_inj.mp (by omega)
      · rw [if_neg k, if_neg (fun w => k (Int32.le_iff_toInt_le.mpr (Int.le_of_lt (Int32.lt_iff_toInt_lt.mp w))))]
    refine pt_if (fun k => pt_mono (k75 v) (fun r hr => Or.inr ⟨by omega, ?_⟩)) (fun k => pt_mono (k75 1) (fun r hr => Or.inr ⟨by omega, ?_⟩))
    · rw [hr, ← e, hv, if_pos k]
    · rw [hr, ← e, hv, if_neg k]
  have p1 := p1 _ h
  have p2 := p2 _ h2
  rw [hk.1, hk.2.2.2.2] at p2
  rcases p1 with ⟨e, p1⟩ | ⟨g, e⟩ <;> rcases p2 with ⟨d2, p2⟩ | ⟨f, d2⟩
  · exact Int32.toInt_inj.mp (by rw [e, d2])
  · exact absurd f p1
  · exact absurd g p2
  · rw [e, d2]
end LAST
end
section
/-! the relation over all other methods: by frames -/
theorem nb_of {a M g : Nat} (h : a &&& M = 0) (hg : M.testBit g = true) : a.testBit g = false := by
  have := congrArg (fun n => n.testBit g) h
  simp only [Nat.testBit_and, hg, Nat.zero_testBit, Bool.and_true] at this
  exact this
theorem RelA.fr {σ ρ σ' ρ' : S2} {a b : Nat} (h : RelA σ ρ) (hc : Fr gC a σ σ') (hm : Fr gM b ρ ρ') (e : a &&& 7340408 = 0) (f : b &&& 7340408 = 0) : RelA σ' ρ' := by
  obtain ⟨hk, hF, hA, hS, hE⟩ := h
  refine ⟨hk.fr hc hm (nb_of e rfl) (nb_of e rfl) (nb_of e rfl) (nb_of e rfl) (nb_of f rfl) (nb_of f rfl) (nb_of f rfl) (nb_of f rfl), hF.fr hc hm (nb_of e rfl) (nb_of f rfl), hA.fr hc hm (nb_of e rfl) (nb_of f rfl), hS.fr hc hm (nb_of e rfl) (nb_of f rfl) ?_, hE.fr hc hm (nb_of e rfl) (nb_of f rfl)⟩
  rw [(hc 7 5 (nb_of (g := 3) e rfl)).1]; exact Int.le_refl _
theorem nT_fr {m τ : Nat} {σ0 σ : S2} (h : Fr gC m σ0 σ) (h9 : m.testBit 9 = true) (h10 : m.testBit 10 = true) : Fr gC m σ0 (nT σ (τ + 1)) := fun k i e => by
  refine ⟨?_, (h k i e).2⟩
  have hg : 182 + 6 * (τ + 1) ≤ k → k < 182 + 6 * (τ + 1) + 6 → False := fun q1 q2 => by
    have e2 : m.testBit (gC k i) = true := by
      unfold gC
      rw [if_neg (by omega), if_neg (by omega), if_neg (by omega), if_neg (by omega), if_neg (by omega), if_neg (by omega), if_neg (by omega), if_neg (by omega), if_neg (by omega), if_neg (by omega)]
      unfold gB
      split
      · split
        · exact h10
        · exact h9
      · exact h10
      · exact h9
    rw [e2] at e; exact absurd e (by decide)
  show (if k < 182 + 6 * (τ + 1) then σ.1 k else if k = 182 + 6 * (τ + 1) then tabI else if k < 182 + 6 * (τ + 1) + 6 then (fun _ => 0) else σ.1 k) i = _
  by_cases c1 : k < 182 + 6 * (τ + 1)
  · rw [if_pos c1]; exact (h k i e).1
  · rw [if_neg c1]
    by_cases c2 : k = 182 + 6 * (τ + 1)
    · exact (hg (by omega) (by omega)).elim
    · rw [if_neg c2]
      by_cases c3 : k < 182 + 6 * (τ + 1) + 6
      · exact (hg (by omega) c3).elim
      · rw [if_neg c3]; exact (h k i e).1
theorem wfX11_table {τ : Nat} {σ : S2} {a b : Int32} : Pt (fun z : Int32 × Nat × S2 => Fr gC 25167363 σ z.2.2) (fX11_table τ σ a b) := by
  have hT : (25167363 : Nat).testBit (gT (τ + 1)) = true := by
    unfold gT
    rw [if_neg (by omega)]; rfl
  unfold fX11_table fX11_table_0
  refine pt_nm (fun v _ => pt_if (fun _ => pt_some (Fr.rf σ)) (fun _ => pt_if (fun _ => pt_if (fun _ => ?_) (fun _ => pt_some (Fr.rf σ))) (fun _ => pt_some (Fr.rf σ))))
  refine pt_bs (pt_fr (wfX8_takeMembers (m := 25167363) rfl τ 0 rfl σ a (Fr.rf σ))) (fun r s1 h1 => ?_)
  refine pt_bs (pt_fr (wfX8_takeLaw (m := 25167363) rfl τ 0 2 80 rfl s1 _ h1)) (fun r s2 h2 => ?_)
  refine pt_nm (fun s3 e3 => ?_)
  subst e3
  have h3 := Fr.wI (k := 1) (i := 1) (x := 0) h2 rfl
  refine pt_bs (pt_fr (wfX3_workOut (m := 25167363) rfl τ _ h3)) (fun r s4 h4 => ?_)
  refine pt_if (fun _ => ?_) (fun _ => pt_some h4)
  unfold tabNew tabRest
  refine pt_bs (pt_fr (wfX8_takeAll (m := 25167363) rfl τ (τ + 1) 0 hT _ (nT_fr h4 rfl rfl))) (fun r s5 h5 => ?_)
  refine pt_bs (pt_fr (wfX8_seatAll (m := 25167363) rfl τ (τ + 1) hT s5 b h5)) (fun r s6 h6 => ?_)
  exact pt_ck (fun _ _ _ => pt_if (fun _ => pt_some (Fr.wI (k := 0) (i := 6) h6 rfl)) (fun _ => pt_none))
end
