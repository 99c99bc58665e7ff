/-! counts of bits; what the parser counts of a set of keepers -/
def popN (x : Nat) : Nat → Nat
  | 0 => 0
  | n + 1 => popN x n + (if x.testBit n then 1 else 0)
def bcF (x : Int32) : Int32 :=
  let v1 := x - ((UInt32.toInt32 (Int32.toUInt32 x >>> (Int32.toUInt32 1 &&& Int32.toUInt32 31))) &&& 1431655765)
  let v2 := (v1 &&& 858993459) + ((UInt32.toInt32 (Int32.toUInt32 v1 >>> (Int32.toUInt32 2 &&& Int32.toUInt32 31))) &&& 858993459)
  let v3 := (v2 + (UInt32.toInt32 (Int32.toUInt32 v2 >>> (Int32.toUInt32 4 &&& Int32.toUInt32 31)))) &&& 252645135
  let v4 := v3 + (UInt32.toInt32 (Int32.toUInt32 v3 >>> (Int32.toUInt32 8 &&& Int32.toUInt32 31)))
  let v5 := v4 + (UInt32.toInt32 (Int32.toUInt32 v4 >>> (Int32.toUInt32 16 &&& Int32.toUInt32 31)))
  v5 &&& 63
theorem bc_all : (List.range 4096).all (fun i => decide (bcF (Int32.ofNat i) = Int32.ofNat (popN i 12))) = true := by decide +kernel
theorem bitCount_eq {τ : Nat} {σ : S2} {x : Int32} (h0 : 0 ≤ x.toInt) (h1 : x.toInt ≤ 4095) : fJ6_bitCount_0f7a4 τ σ x = some (Int32.ofNat (popN x.toInt.toNat 12)) := by
  have e : fJ6_bitCount_0f7a4 τ σ x = some (bcF x) := rfl
  have h := List.all_eq_true.mp bc_all x.toInt.toNat (List.mem_range.mpr (by omega))
  have ex : Int32.ofNat x.toInt.toNat = x := by
    refine Int32.toInt_inj.mp ?_
    rw [Int32.toInt_ofNat_of_lt (by omega)]; omega
  rw [ex] at h
  rw [e, of_decide_eq_true h]
theorem popN_s (x n : Nat) : popN x (n + 1) = popN x n + (if x.testBit n then 1 else 0) := rfl
theorem popN_le (x n : Nat) : popN x n ≤ n := by
  induction n with
  | zero => exact Nat.le_refl _
  | succ n ih => unfold popN; split <;> omega
theorem popN_hi {x n m : Nat} (h : n ≤ m) (hx : x < 2 ^ n) : popN x m = popN x n := by
  induction m with
  | zero => rw [show n = 0 by omega]
  | succ m ih =>
    by_cases q : n = m + 1
    · rw [q]
    · rw [popN_s, Nat.testBit_lt_two_pow (Nat.lt_of_lt_of_le hx (Nat.pow_le_pow_right (by decide) (by omega))), ih (by omega)]
      rfl
theorem bit_set (x i j : Nat) : (x ||| 2 ^ i).testBit j = (x.testBit j || decide (i = j)) := by
  rw [Nat.testBit_or, Nat.testBit_two_pow]
theorem popN_set {x i : Nat} (n : Nat) : popN (x ||| 2 ^ i) n = popN x n + (if i < n ∧ x.testBit i = false then 1 else 0) := by
  induction n with
  | zero => rw [if_neg (by omega)]; rfl
  | succ n ih =>
    rw [popN_s, popN_s, ih, bit_set]
    by_cases q : i = n
    · subst q
      cases hx : x.testBit i <;> simp
    · have e : decide (i = n) = false := by simpa using q
      rw [e, Bool.or_false]
      by_cases q2 : i < n ∧ x.testBit i = false
      · rw [if_pos q2, if_pos (c := i < n + 1 ∧ x.testBit i = false) ⟨by have := q2.1; omega, q2.2⟩]; omega
      · rw [if_neg q2, if_neg (c := i < n + 1 ∧ x.testBit i = false) (fun w => q2 ⟨by have := w.1; omega, w.2⟩)]; omega
theorem or_shl {a x : Int32} (h0 : 0 ≤ a.toInt) (h1 : a.toInt ≤ 63) (x0 : 0 ≤ x.toInt) (x5 : x.toInt ≤ 5) : (a ||| ((1 : Int32) <<< (x &&& 31))).toInt.toNat = a.toInt.toNat ||| 2 ^ x.toInt.toNat ∧ 0 ≤ (a ||| ((1 : Int32) <<< (x &&& 31))).toInt ∧ (a ||| ((1 : Int32) <<< (x &&& 31))).toInt ≤ 63 := by
  have b := i32_shlB (x := x) 5 x0 (by omega) (by decide)
  have r := i32_orB (a := a) (b := (1 : Int32) <<< (x &&& 31)) 6 63 (by decide) (by decide) h0 h1 (by omega) (by omega)
  refine ⟨?_, r⟩
  have key : ∀ i j : Nat, i < 64 → j < 6 → (Int32.ofNat i ||| ((1 : Int32) <<< (Int32.ofNat j &&& 31))).toInt.toNat = i ||| 2 ^ j := by
    intro i j hi hj
    have := (by decide +kernel : ∀ i : Fin 64, ∀ j : Fin 6, (Int32.ofNat i.val ||| ((1 : Int32) <<< (Int32.ofNat j.val &&& 31))).toInt.toNat = i.val ||| 2 ^ j.val)
    exact this ⟨i, hi⟩ ⟨j, hj⟩
  have ea : Int32.ofNat a.toInt.toNat = a := Int32.toInt_inj.mp (by rw [Int32.toInt_ofNat_of_lt (by omega)]; omega)
  have ex : Int32.ofNat x.toInt.toNat = x := Int32.toInt_inj.mp (by rw [Int32.toInt_ofNat_of_lt (by omega)]; omega)
  have := key a.toInt.toNat x.toInt.toNat (by omega) (by omega)
  rw [ea, ex] at this
  exact this
theorem i_mx {v w : Int32} : (if w < v then v else w) = (if v ≤ w then w else v) := by
  by_cases c : w < v
  · rw [if_pos c, if_neg (fun q => by have a := Int32.lt_iff_toInt_lt.mp c; have b := Int32.le_iff_toInt_le.mp q; omega)]
  · rw [if_neg c, if_pos (Int32.le_iff_toInt_le.mpr (by have : ¬ w.toInt < v.toInt := fun q => c (Int32.lt_iff_toInt_lt.mpr q); omega))]
section LOOK
variable {τ : Nat} {t : Int32}
/-- the draft of the class and row t of the reference hold the same set, weights and streets -/
def DR (t : Int32) (σ ρ : S2) : Prop := (0 ≤ t.toInt ∧ t.toInt ≤ 10) ∧ ρ.1 8 t.toNatClampNeg = σ.1 182 0 ∧ (0 ≤ (σ.1 182 0).toInt ∧ (σ.1 182 0).toInt.toNat < 2 ^ (ρ.1 0 3).toInt.toNat) ∧ (0 ≤ (ρ.1 0 3).toInt ∧ (ρ.1 0 3).toInt ≤ 12) ∧ ∀ k : Nat, k < 12 → (σ.1 182 0).toInt.toNat.testBit k = true → ρ.1 15 (12 * t.toNatClampNeg + k) = σ.1 183 k ∧ ρ.1 16 (12 * t.toNatClampNeg + k) = σ.1 9 k ∧ 0 ≤ (σ.1 9 k).toInt ∧ (σ.1 9 k).toInt ≤ 5
/-- the loop of look against the loop of numbers, from keeper k on -/
def LK (t : Int32) (k : Int32) (bits : Int32) (σ ρ : S2) : Prop := σ.1 13 6 = ρ.1 0 50 ∧ σ.1 13 7 = ρ.1 0 51 ∧ ρ.1 0 48 = Int32.ofNat (popN (σ.1 182 0).toInt.toNat k.toInt.toNat) ∧ ρ.1 0 49 = Int32.ofNat (popN bits.toInt.toNat 12) ∧ 0 ≤ bits.toInt ∧ bits.toInt ≤ 63
theorem isIn_q {ρ : S2} {k r : Int32} (h : fX12_isIn ρ t k = some r) (b0 : 0 ≤ (ρ.1 8 t.toNatClampNeg).toInt) (b1 : (ρ.1 8 t.toNatClampNeg).toInt ≤ 4095) (k0 : 0 ≤ k.toInt) (k1 : k.toInt ≤ 11) : r = if (ρ.1 8 t.toNatClampNeg).toInt.toNat.testBit k.toNatClampNeg then 1 else 0 := by
  unfold fX12_isIn fX12_isIn_0 at h
  obtain ⟨_, h⟩ := ckS h
  have h : (if ((ρ.1 8 t.toNatClampNeg >>> (k &&& 31)) &&& 1) = 1 then some (1 : Int32) else some 0) = some r := h
  have e := bit_sar b0 b1 k0 k1
  cases q : (ρ.1 8 t.toNatClampNeg).toInt.toNat.testBit k.toNatClampNeg
  · rw [q, if_neg (by decide)] at e
    rw [if_neg (fun w => by rw [w] at e; exact absurd e (by decide))] at h
    cases h; rfl
  · rw [q, if_pos rfl] at e
    rw [if_pos (Int32.toInt_inj.mp (by rw [e]; rfl))] at h
    cases h; rfl
end LOOK
section LOOK2
variable {τ : Nat} {t : Int32}
theorem pop_step {x k : Int32} (k0 : 0 ≤ k.toInt) (k1 : k.toInt ≤ 11) : popN x.toInt.toNat (k + 1).toInt.toNat = popN x.toInt.toNat k.toInt.toNat + (if x.toInt.toNat.testBit k.toNatClampNeg then 1 else 0) := by
  have z1 := i_1
  have e : (k + 1).toInt = k.toInt + 1 := by rw [i32_add (by omega) (by omega)]; omega
  have n := i32_nat k0
  rw [show (k + 1).toInt.toNat = k.toInt.toNat + 1 by omega, show k.toNatClampNeg = k.toInt.toNat by omega]
  rfl
theorem ofNat_succ {n : Nat} : Int32.ofNat (n + 1) = Int32.ofNat n + 1 := by
  rw [Int32.ofNat_add]; rfl
/-- look goes on alone behind the last keeper: it meets nobody -/
theorem look_end {x3 : Int32} : ∀ (N : Nat) (σ σ' : S2) (x4 : Int32) (u : Unit), 0 ≤ x4.toInt → x4.toInt ≤ 12 → 0 ≤ (σ.1 182 0).toInt → (σ.1 182 0).toInt.toNat < 2 ^ x4.toInt.toNat → 0 ≤ x3.toInt → x3.toInt ≤ 63 → fX3_look_26 τ N σ x3 x4 = some (u, σ') → σ' = ux_wI σ 13 5 (Int32.ofNat (popN x3.toInt.toNat 12)) := by
  have z1 := i_1
  have z12 := i_12
  intro N
  induction N with
  | zero => intro σ σ' x4 u _ _ _ _ _ _ h; cases h
  | succ N ih =>
    intro σ σ' x4 u h0 h12 m0 m1 b0 b1 h
    unfold fX3_look_26 at h
    by_cases c : 12 ≤ x4
    · rw [if_pos c, bitCount_eq b0 (by omega)] at h
      have h : some ((), ux_wI σ 13 5 (Int32.ofNat (popN x3.toInt.toNat 12))) = some (u, σ') := h
      cases h; rfl
    · rw [if_neg c] at h
      have c' : ¬ (12 : Int32).toInt ≤ x4.toInt := fun w => c (Int32.le_iff_toInt_le.mpr w)
      have m4 : (σ.1 182 0).toInt ≤ 4095 := by
        have : 2 ^ x4.toInt.toNat ≤ 2 ^ 12 := Nat.pow_le_pow_right (by decide) (by omega)
        have e : 2 ^ 12 = 4096 := by decide
        omega
      have e := bit_sar m0 m4 h0 (by omega)
      have n4 := i32_nat h0
      have q : (σ.1 182 0).toInt.toNat.testBit x4.toNatClampNeg = false := by
        refine Nat.testBit_lt_two_pow ?_
        rw [show x4.toNatClampNeg = x4.toInt.toNat by omega]
        exact m1
      rw [q, if_neg (by decide)] at e
      rw [if_pos (Int32.toInt_inj.mp (by rw [e]; rfl))] at h
      have h : fX3_look_26 τ N σ x3 (x4 + 1) = some (u, σ') := h
      have e4 : (x4 + 1).toInt = x4.toInt + 1 := by rw [i32_add (by omega) (by omega)]; omega
      refine ih σ σ' (x4 + 1) u (by omega) (by omega) m0 ?_ b0 b1 h
      exact Nat.lt_of_lt_of_le m1 (Nat.pow_le_pow_right (by decide) (by omega))
theorem DR.fr {σ ρ σ2 ρ2 : S2} (h : DR t σ ρ) (e8 : ∀ i, ρ2.1 8 i = ρ.1 8 i) (e3 : ρ2.1 0 3 = ρ.1 0 3) (e15 : ∀ i, ρ2.1 15 i = ρ.1 15 i) (e16 : ∀ i, ρ2.1 16 i = ρ.1 16 i) (s182 : σ2.1 182 0 = σ.1 182 0) (s183 : ∀ i, σ2.1 183 i = σ.1 183 i) (s9 : ∀ i, σ2.1 9 i = σ.1 9 i) : DR t σ2 ρ2 := by
  obtain ⟨a, b, c, d, e⟩ := h
  unfold DR
  rw [e8, e3, s182]
  refine ⟨a, b, c, d, fun k hk ht => ?_⟩
  rw [e15, e16, s183, s9]; exact e k hk ht
theorem wI_eq (σ : S2) (k i : Nat) (x : Int32) : (ux_wI σ k i x).1 k i = x := by
  show (if k = k then upd (σ.1 k) i x else σ.1 k) i = x
  rw [if_pos rfl]; exact if_pos rfl
theorem wI_k (σ : S2) {k k' : Nat} (i i' : Nat) (x : Int32) (h : k' ≠ k) : (ux_wI σ k i x).1 k' i' = σ.1 k' i' := by
  show (if k' = k then upd (σ.1 k) i x else σ.1 k') i' = _
  rw [if_neg h]
theorem wI_i (σ : S2) (k : Nat) {i i' : Nat} (x : Int32) (h : i' ≠ i) : (ux_wI σ k i x).1 k i' = σ.1 k i' := by
  show (if k = k then upd (σ.1 k) i x else σ.1 k) i' = _
  rw [if_pos rfl]; exact if_neg h
/-- what look and numbers leave alone -/
def LkF (σ σ2 : S2) : Prop := (∀ k i : Nat, k ≠ 13 → σ2.1 k i = σ.1 k i) ∧ ∀ i : Nat, i < 5 → σ2.1 13 i = σ.1 13 i
def LkG (ρ ρ2 : S2) : Prop := (∀ k i : Nat, k ≠ 0 → ρ2.1 k i = ρ.1 k i) ∧ ∀ i : Nat, i < 48 → ρ2.1 0 i = ρ.1 0 i
theorem LkF.rf (σ : S2) : LkF σ σ := ⟨fun _ _ _ => rfl, fun _ _ => rfl⟩
theorem LkG.rf (σ : S2) : LkG σ σ := ⟨fun _ _ _ => rfl, fun _ _ => rfl⟩
theorem LkF.w {σ σ2 : S2} (h : LkF σ σ2) {i : Nat} (x : Int32) (hi : 5 ≤ i) : LkF σ (ux_wI σ2 13 i x) := ⟨fun k j hk => by rw [wI_k _ _ _ _ hk]; exact h.1 k j hk, fun j hj => by rw [wI_i _ _ _ (show j ≠ i by omega)]; exact h.2 j hj⟩
theorem LkG.w {σ σ2 : S2} (h : LkG σ σ2) {i : Nat} (x : Int32) (hi : 48 ≤ i) : LkG σ (ux_wI σ2 0 i x) := ⟨fun k j hk => by rw [wI_k _ _ _ _ hk]; exact h.1 k j hk, fun j hj => by rw [wI_i _ _ _ (show j ≠ i by omega)]; exact h.2 j hj⟩
/-- one keeper of the set, in the class -/
theorem look_c {Q : Unit × S2 → Prop} {N : Nat} {σ : S2} {x3 x4 : Int32} (lt : ¬ 12 ≤ x4) (hk : ¬ ((σ.1 182 0) >>> (x4 &&& 31)) &&& 1 = 0) (kk : ∀ σ2 : S2, LkF σ σ2 → σ2.1 13 6 = σ.1 13 6 + σ.1 183 x4.toNatClampNeg → σ2.1 13 7 = (if σ.1 13 7 < σ.1 183 x4.toNatClampNeg then σ.1 183 x4.toNatClampNeg else σ.1 13 7) → Pt Q (fX3_look_26 τ N σ2 (x3 ||| ((1 : Int32) <<< (σ.1 9 x4.toNatClampNeg &&& 31))) (x4 + 1))) : Pt Q (fX3_look_26 τ (N + 1) σ x3 x4) := by
  unfold fX3_look_26 fX3_look_94
  refine pt_if (fun c => absurd c lt) (fun _ => pt_if (fun c => absurd c hk) (fun _ => pt_ck (fun _ _ _ => pt_nm (fun v5 e5 => pt_nm (fun v6 e6 => pt_ck (fun _ _ _ => pt_nm (fun v7 e7 => pt_nm (fun s8 e8 => pt_ck (fun _ _ _ => pt_nm (fun v9 e9 => pt_nm (fun s10 e10 => pt_nm (fun v1 e1 => ?_))))))))))))
  have g9 : v9 = σ.1 183 x4.toNatClampNeg := by rw [e9, e8, wI_k _ _ _ _ (by decide)]
  have g7 : s8.1 13 7 = σ.1 13 7 := by rw [e8, wI_i _ _ _ (by decide)]
  rw [e1, e6, e5]
  refine kk s10 ?_ ?_ ?_
  · rw [e10, e8]; exact ((LkF.rf σ).w _ (by decide)).w _ (by decide)
  · rw [e10, wI_i _ _ _ (by decide), e8, wI_eq, e7]
  · rw [e10, wI_eq, g9, g7]
theorem numb_92 {Q : Unit × S2 → Prop} {M : Nat} {ρ σ : S2} {bits k c s d : Int32} (f : LkG ρ σ) (e48 : σ.1 0 48 = ρ.1 0 48 + 1) (e49 : σ.1 0 49 = ρ.1 0 49) (e50 : σ.1 0 50 = ρ.1 0 50) (e51 : σ.1 0 51 = ρ.1 0 51) (e16 : ρ.1 16 (12 * t + k).toNatClampNeg = s) (kk : ∀ ρ2 : S2, LkG ρ ρ2 → ρ2.1 0 48 = ρ.1 0 48 + 1 → ρ2.1 0 49 = ρ.1 0 49 + d → ρ2.1 0 50 = ρ.1 0 50 + c → ρ2.1 0 51 = (if c ≤ ρ.1 0 51 then ρ.1 0 51 else c) → Pt Q (fX12_numbers_24 M ρ2 t (bits ||| ((1 : Int32) <<< (s &&& 31))) (k + 1))) : Pt Q (fX12_numbers_92 (fX12_numbers_24 M) σ t bits k c d (σ.1 0 49)) := by
  unfold fX12_numbers_92 fX12_numbers_142 fX12_numbers_145
  refine pt_nm (fun s3 e3 => pt_ck (fun _ _ _ => pt_nm (fun v4 e4 => pt_nm (fun v5 e5 => pt_nm (fun s6 e6 => ?_)))))
  have g4 : v4 = s := by rw [e4, e3, wI_k _ _ _ _ (by decide), f.1 _ _ (by decide), e16]
  have f6 : LkG ρ s6 := by rw [e6, e3]; exact (f.w _ (by decide)).w _ (by decide)
  have h48 : s6.1 0 48 = ρ.1 0 48 + 1 := by rw [e6, wI_i _ _ _ (by decide), e3, wI_i _ _ _ (by decide), e48]
  have h49 : s6.1 0 49 = ρ.1 0 49 + d := by rw [e6, wI_i _ _ _ (by decide), e3, wI_eq, e49]
  have h50 : s6.1 0 50 = ρ.1 0 50 + c := by rw [e6, wI_eq, e3, wI_i _ _ _ (by decide), e50]
  have h51 : s6.1 0 51 = ρ.1 0 51 := by rw [e6, wI_i _ _ _ (by decide), e3, wI_i _ _ _ (by decide), e51]
  refine pt_if (fun q => pt_nm (fun s2 e2 => pt_nm (fun v1 e1 => ?_))) (fun q => pt_nm (fun s2 e2 => pt_nm (fun v1 e1 => ?_)))
  · rw [e1, e5, g4]
    rw [h51] at q
    refine kk s2 (by rw [e2]; exact f6.w _ (by decide)) (by rw [e2, wI_i _ _ _ (by decide), h48]) (by rw [e2, wI_i _ _ _ (by decide), h49]) (by rw [e2, wI_i _ _ _ (by decide), h50]) ?_
    rw [e2, wI_eq, if_pos q, h51]
  · rw [e1, e5, g4]
    rw [h51] at q
    refine kk s2 (by rw [e2]; exact f6.w _ (by decide)) (by rw [e2, wI_i _ _ _ (by decide), h48]) (by rw [e2, wI_i _ _ _ (by decide), h49]) (by rw [e2, wI_i _ _ _ (by decide), h50]) ?_
    rw [e2, wI_eq, if_neg q]
/-- one keeper of the set, in the reference -/
theorem look_m {Q : Unit × S2 → Prop} {M : Nat} {ρ : S2} {bits k c s : Int32} (lt : ¬ ρ.1 0 3 ≤ k) (hin : fX12_isIn ρ t k = some 1) (e15 : ρ.1 15 (12 * t + k).toNatClampNeg = c) (e16 : ρ.1 16 (12 * t + k).toNatClampNeg = s) (kk : ∀ ρ2 : S2, LkG ρ ρ2 → ρ2.1 0 48 = ρ.1 0 48 + 1 → ρ2.1 0 49 = ρ.1 0 49 + (if ((bits >>> (s &&& 31)) &&& 1) = 0 then 1 else 0) → ρ2.1 0 50 = ρ.1 0 50 + c → ρ2.1 0 51 = (if c ≤ ρ.1 0 51 then ρ.1 0 51 else c) → Pt Q (fX12_numbers_24 M ρ2 t (bits ||| ((1 : Int32) <<< (s &&& 31))) (k + 1))) : Pt Q (fX12_numbers_24 (M + 1) ρ t bits k) := by
  unfold fX12_numbers_24
  refine pt_if (fun c0 => absurd c0 lt) (fun _ => pt_bi (P := fun r => r = 1) (fun z e => by rw [hin] at e; cases e; rfl) (fun r7 e7 => pt_if (fun c0 => absurd (e7.symm.trans c0) (by decide)) (fun _ => ?_)))
  refine pt_ck (fun _ _ _ => pt_nm (fun v9 e9 => pt_nm (fun s10 e10 => pt_ck (fun _ _ _ => pt_nm (fun v11 e11 => ?_)))))
  have g9 : v9 = c := e9.trans e15
  have g11 : v11 = s := by rw [e11, e10, wI_k _ _ _ _ (by decide), e16]
  have f : LkG ρ s10 := by rw [e10]; exact (LkG.rf ρ).w _ (by decide)
  have e48 : s10.1 0 48 = ρ.1 0 48 + 1 := by rw [e10, wI_eq]
  have e49 : s10.1 0 49 = ρ.1 0 49 := by rw [e10, wI_i _ _ _ (by decide)]
  have e50 : s10.1 0 50 = ρ.1 0 50 := by rw [e10, wI_i _ _ _ (by decide)]
  have e51 : s10.1 0 51 = ρ.1 0 51 := by rw [e10, wI_i _ _ _ (by decide)]
  rw [g9, g11]
  refine pt_if (fun q => numb_92 f e48 e49 e50 e51 e16 (fun ρ2 a b b2 b3 b4 => kk ρ2 a b ?_ b3 b4)) (fun q => numb_92 f e48 e49 e50 e51 e16 (fun ρ2 a b b2 b3 b4 => kk ρ2 a b ?_ b3 b4))
  · rw [if_pos q]; exact b2
  · rw [if_neg q]; exact b2
/-- a keeper that is not in the set -/
theorem look_c0 {N : Nat} {σ : S2} {x3 x4 : Int32} (lt : ¬ 12 ≤ x4) (hk : ((σ.1 182 0) >>> (x4 &&& 31)) &&& 1 = 0) : fX3_look_26 τ (N + 1) σ x3 x4 = fX3_look_26 τ N σ x3 (x4 + 1) := by
  show (if 12 ≤ x4 then _ else _) = _
  rw [if_neg lt, if_pos hk]; rfl
theorem look_m0 {M : Nat} {ρ : S2} {bits k : Int32} (lt : ¬ ρ.1 0 3 ≤ k) (hin : fX12_isIn ρ t k = some 0) : fX12_numbers_24 (M + 1) ρ t bits k = fX12_numbers_24 M ρ t bits (k + 1) := by
  show (if ρ.1 0 3 ≤ k then _ else _) = _
  rw [if_neg lt, hin]; rfl
def LkO (σ ρ σ' ρ' : S2) : Prop := σ'.1 13 6 = ρ'.1 0 50 ∧ σ'.1 13 7 = ρ'.1 0 51 ∧ ρ'.1 0 48 = Int32.ofNat (popN (σ.1 182 0).toInt.toNat 12) ∧ ρ'.1 0 49 = σ'.1 13 5 ∧ LkF σ σ' ∧ LkG ρ ρ'
theorem LkO.step {σ ρ σ2 ρ2 σ' ρ' : S2} (h : LkO σ2 ρ2 σ' ρ') (f : LkF σ σ2) (g : LkG ρ ρ2) : LkO σ ρ σ' ρ' := by
  obtain ⟨a1, a2, a3, a4, a5, a6⟩ := h
  refine ⟨a1, a2, ?_, a4, ⟨fun k i hk => (a5.1 k i hk).trans (f.1 k i hk), fun i hi => (a5.2 i hi).trans (f.2 i hi)⟩, ⟨fun k i hk => (a6.1 k i hk).trans (g.1 k i hk), fun i hi => (a6.2 i hi).trans (g.2 i hi)⟩⟩
  rw [a3, f.1 182 0 (by decide)]
theorem lk_step {σ ρ σ2 ρ2 : S2} {k bits bits2 c d : Int32} (hL : LK t k bits σ ρ) (f : LkF σ σ2) (g6 : σ2.1 13 6 = σ.1 13 6 + c) (g7 : σ2.1 13 7 = (if σ.1 13 7 < c then c else σ.1 13 7)) (r48 : ρ2.1 0 48 = ρ.1 0 48 + 1) (r49 : ρ2.1 0 49 = ρ.1 0 49 + d) (r50 : ρ2.1 0 50 = ρ.1 0 50 + c) (r51 : ρ2.1 0 51 = (if c ≤ ρ.1 0 51 then ρ.1 0 51 else c)) (pk : popN (σ.1 182 0).toInt.toNat (k + 1).toInt.toNat = popN (σ.1 182 0).toInt.toNat k.toInt.toNat + 1) (hd : Int32.ofNat (popN bits.toInt.toNat 12) + d = Int32.ofNat (popN bits2.toInt.toNat 12)) (b0 : 0 ≤ bits2.toInt) (b1 : bits2.toInt ≤ 63) : LK t (k + 1) bits2 σ2 ρ2 := by
  obtain ⟨l1, l2, l3, l4, l5, l6⟩ := hL
  refine ⟨?_, ?_, ?_, ?_, b0, b1⟩
  · rw [g6, r50, l1]
  · rw [g7, r51, l2]; exact i_mx
  · rw [r48, l3, f.1 182 0 (by decide), pk, ofNat_succ]
  · rw [r49, l4, hd]
theorem look_base {σ ρ σ' : S2} {k bits : Int32} (hL : LK t k bits σ ρ) (e1 : σ' = ux_wI σ 13 5 (Int32.ofNat (popN bits.toInt.toNat 12))) (p : popN (σ.1 182 0).toInt.toNat k.toInt.toNat = popN (σ.1 182 0).toInt.toNat 12) : LkO σ ρ σ' ρ := by
  obtain ⟨l1, l2, l3, l4, l5, l6⟩ := hL
  subst e1
  refine ⟨?_, ?_, ?_, ?_, (LkF.rf σ).w _ (by decide), LkG.rf ρ⟩
  · rw [wI_i _ _ _ (by decide)]; exact l1
  · rw [wI_i _ _ _ (by decide)]; exact l2
  · rw [l3, p]
  · rw [wI_eq]; exact l4
theorem look_lq : ∀ (N M : Nat) (σ ρ σ' ρ' : S2) (k bits : Int32) (u u2 : Unit), DR t σ ρ → LK t k bits σ ρ → 0 ≤ k.toInt → k.toInt ≤ (ρ.1 0 3).toInt → fX3_look_26 τ N σ bits k = some (u, σ') → fX12_numbers_24 M ρ t bits k = some (u2, ρ') → LkO σ ρ σ' ρ' := by
  have z0 := i_0
  have z1 := i_1
  have z12 := i_12
  intro N
  induction N with
  | zero => intro M σ ρ σ' ρ' k bits u u2 _ _ _ _ h; cases h
  | succ N ih =>
    intro M σ ρ σ' ρ' k bits u u2 hD hL k0 kn h h2
    cases M with
    | zero => cases h2
    | succ M =>
      obtain ⟨⟨t0, t1⟩, d1, ⟨d2, d3⟩, ⟨d4, d5⟩, d6⟩ := id hD
      have nk := i32_nat k0
      have nt := i32_nat t0
      have m4 : (σ.1 182 0).toInt ≤ 4095 := by
        have : 2 ^ (ρ.1 0 3).toInt.toNat ≤ 2 ^ 12 := Nat.pow_le_pow_right (by decide) (by omega)
        have e : 2 ^ 12 = 4096 := by decide
        omega
      by_cases c : ρ.1 0 3 ≤ k
      · have c' := Int32.le_iff_toInt_le.mp c
        have ek : k.toInt = (ρ.1 0 3).toInt := by omega
        have e1 := look_end (N + 1) σ σ' k u k0 (by omega) d2 (by rw [ek]; exact d3) hL.2.2.2.2.1 hL.2.2.2.2.2 h
        have e2 : ρ' = ρ := by
          unfold fX12_numbers_24 at h2
          rw [if_pos c] at h2
          cases h2; rfl
        rw [e2]
        exact look_base hL e1 (popN_hi (m := 12) (by omega) (by rw [ek]; exact d3)).symm
      · have c' : ¬ (ρ.1 0 3).toInt ≤ k.toInt := fun w => c (Int32.le_iff_toInt_le.mpr w)
        have e4 : (k + 1).toInt = k.toInt + 1 := by rw [i32_add (by omega) (by omega)]; omega
        have c12 : ¬ 12 ≤ k := fun w => by have := Int32.le_iff_toInt_le.mp w; omega
        have eb := bit_sar d2 m4 k0 (by omega)
        have ps := pop_step (x := σ.1 182 0) k0 (by omega)
        have hin : fX12_isIn ρ t k = some (if (σ.1 182 0).toInt.toNat.testBit k.toNatClampNeg then 1 else 0) := by
          cases w : fX12_isIn ρ t k with
          | none => unfold fX12_numbers_24 at h2; rw [if_neg c, w] at h2; cases h2
          | some r7 =>
            have e7 := isIn_q w (by rw [d1]; exact d2) (by rw [d1]; exact m4) k0 (by omega)
            rw [d1] at e7
            rw [e7]
        cases q : (σ.1 182 0).toInt.toNat.testBit k.toNatClampNeg
        · rw [q] at hin eb ps
          rw [if_neg (by decide)] at hin eb ps
          rw [look_c0 c12 (Int32.toInt_inj.mp (by rw [eb]; rfl))] at h
          rw [look_m0 c hin] at h2
          refine ih M σ ρ σ' ρ' (k + 1) bits u u2 hD ?_ (by omega) (by omega) h h2
          obtain ⟨l1, l2, l3, l4, l5, l6⟩ := hL
          exact ⟨l1, l2, by rw [l3, ps, Nat.add_zero], l4, l5, l6⟩
        · rw [q] at hin eb ps
          rw [if_pos rfl] at hin eb ps
          obtain ⟨l1, l2, l3, l4, l5, l6⟩ := id hL
          obtain ⟨g1, g2, g3, g4⟩ := d6 k.toNatClampNeg (by omega) q
          have e12 : (12 : Int32).toInt = 12 := rfl
          have m12 := i32_mulL (a := 12) (b := t) e12 (by omega) (by omega)
          have ix : (12 * t + k).toInt = 12 * t.toInt + k.toInt := by rw [i32_add (by omega) (by omega)]; omega
          have nx := i32_nat (i := 12 * t + k) (by omega)
          have ex : (12 * t + k).toNatClampNeg = 12 * t.toNatClampNeg + k.toNatClampNeg := by omega
          obtain ⟨o1, o2, o3⟩ := or_shl l5 l6 g3 g4
          have nS := i32_nat g3
          have sb := bit_sar (a := bits) (x := σ.1 9 k.toNatClampNeg) l5 (by omega) g3 (by omega)
          have pS := popN_set (x := bits.toInt.toNat) (i := (σ.1 9 k.toNatClampNeg).toInt.toNat) 12
          obtain ⟨σ2, fs, g6, g7, h⟩ := look_c (Q := fun z => ∃ σ2 : S2, LkF σ σ2 ∧ σ2.1 13 6 = σ.1 13 6 + σ.1 183 k.toNatClampNeg ∧ σ2.1 13 7 = (if σ.1 13 7 < σ.1 183 k.toNatClampNeg then σ.1 183 k.toNatClampNeg else σ.1 13 7) ∧ fX3_look_26 τ N σ2 (bits ||| ((1 : Int32) <<< (σ.1 9 k.toNatClampNeg &&& 31))) (k + 1) = some z) c12 (fun w => by rw [w] at eb; exact absurd eb (by decide)) (fun σ2 a b c2 z hz => ⟨σ2, a, b, c2, hz⟩) _ h
          obtain ⟨ρ2, fr, r48, r49, r50, r51, h2⟩ := look_m (Q := fun z => ∃ ρ2 : S2, LkG ρ ρ2 ∧ ρ2.1 0 48 = ρ.1 0 48 + 1 ∧ ρ2.1 0 49 = ρ.1 0 49 + (if ((bits >>> (σ.1 9 k.toNatClampNeg &&& 31)) &&& 1) = 0 then 1 else 0) ∧ ρ2.1 0 50 = ρ.1 0 50 + σ.1 183 k.toNatClampNeg ∧ ρ2.1 0 51 = (if σ.1 183 k.toNatClampNeg ≤ ρ.1 0 51 then ρ.1 0 51 else σ.1 183 k.toNatClampNeg) ∧ fX12_numbers_24 M ρ2 t (bits ||| ((1 : Int32) <<< (σ.1 9 k.toNatClampNeg &&& 31))) (k + 1) = some z) c hin (by rw [ex]; exact g1) (by rw [ex]; exact g2) (fun ρ2 a b b2 b3 b4 z hz => ⟨ρ2, a, b, b2, b3, b4, hz⟩) _ h2
          have hD2 : DR t σ2 ρ2 := hD.fr (fun i => fr.1 8 i (by decide)) (fr.2 3 (by decide)) (fun i => fr.1 15 i (by decide)) (fun i => fr.1 16 i (by decide)) (fs.1 182 0 (by decide)) (fun i => fs.1 183 i (by decide)) (fun i => fs.1 9 i (by decide))
          have eS : (σ.1 9 k.toNatClampNeg).toNatClampNeg = (σ.1 9 k.toNatClampNeg).toInt.toNat := by omega
          rw [eS] at sb
          have hd : Int32.ofNat (popN bits.toInt.toNat 12) + (if ((bits >>> (σ.1 9 k.toNatClampNeg &&& 31)) &&& 1) = 0 then (1 : Int32) else 0) = Int32.ofNat (popN (bits ||| ((1 : Int32) <<< (σ.1 9 k.toNatClampNeg &&& 31))).toInt.toNat 12) := by
            rw [o1, pS]
            cases qS : bits.toInt.toNat.testBit (σ.1 9 k.toNatClampNeg).toInt.toNat
            · rw [qS, if_neg (by decide)] at sb
              rw [if_pos (Int32.toInt_inj.mp (by rw [sb]; rfl)), if_pos ⟨by omega, rfl⟩, ofNat_succ]
            · rw [qS, if_pos rfl] at sb
              rw [if_neg (fun w => by rw [w] at sb; exact absurd sb (by decide)), if_neg (fun w => absurd w.2 (by decide)), Nat.add_zero, Int32.add_zero]
          have hL2 := lk_step hL fs g6 g7 r48 r49 r50 r51 ps hd o2 o3
          exact (ih M σ2 ρ2 σ' ρ' (k + 1) _ u u2 hD2 hL2 (by omega) (by rw [fr.2 3 (by decide)]; omega) h h2).step fs fr
theorem look_lp (N M : Nat) (σ ρ σ' ρ' : S2) (k bits : Int32) (u u2 : Unit) (hD : DR t σ ρ) (hL : LK t k bits σ ρ) (k0 : 0 ≤ k.toInt) (kn : k.toInt ≤ (ρ.1 0 3).toInt) (h : fX3_look_26 τ N σ bits k = some (u, σ')) (h2 : fX12_numbers_24 M ρ t bits k = some (u2, ρ')) : σ'.1 13 6 = ρ'.1 0 50 ∧ σ'.1 13 7 = ρ'.1 0 51 ∧ ρ'.1 0 48 = Int32.ofNat (popN (σ.1 182 0).toInt.toNat 12) ∧ ρ'.1 0 49 = σ'.1 13 5 ∧ (∀ k i : Nat, k ≠ 13 → σ'.1 k i = σ.1 k i) ∧ (∀ i : Nat, i < 5 → σ'.1 13 i = σ.1 13 i) ∧ (∀ k i : Nat, k ≠ 0 → ρ'.1 k i = ρ.1 k i) ∧ ∀ i : Nat, i < 48 → ρ'.1 0 i = ρ.1 0 i := by
  obtain ⟨a1, a2, a3, a4, ⟨a5, a6⟩, a7, a8⟩ := look_lq N M σ ρ σ' ρ' k bits u u2 hD hL k0 kn h h2
  exact ⟨a1, a2, a3, a4, a5, a6, a7, a8⟩
end LOOK2
