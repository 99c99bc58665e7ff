/-! counts of bits; what the parser counts of a set of keepers -/
def popN (x : Nat) : Nat → Nat
  | 0 => 0
  | n + 1 => popN x n + (if x.testBit n then 1 else 0)
def bcF (x : Int32) : Int32 :=
  let v1 := x - ((UInt32.toInt32 (Int32.toUInt32 x >>> (Int32.toUInt32 1 &&& Int32.toUInt32 31))) &&& 1431655765)
  let v2 := (v1 &&& 858993459) + ((UInt32.toInt32 (Int32.toUInt32 v1 >>> (Int32.toUInt32 2 &&& Int32.toUInt32 31))) &&& 858993459)
  let v3 := (v2 + (UInt32.toInt32 (Int32.toUInt32 v2 >>> (Int32.toUInt32 4 &&& Int32.toUInt32 31)))) &&& 252645135
  let v4 := v3 + (UInt32.toInt32 (Int32.toUInt32 v3 >>> (Int32.toUInt32 8 &&& Int32.toUInt32 31)))
  let v5 := v4 + (UInt32.toInt32 (Int32.toUInt32 v4 >>> (Int32.toUInt32 16 &&& Int32.toUInt32 31)))
  v5 &&& 63
theorem bc_all : (List.range 4096).all (fun i => decide (bcF (Int32.ofNat i) = Int32.ofNat (popN i 12))) = true := by decide +kernel
theorem bitCount_eq {τ : Nat} {σ : S2} {x : Int32} (h0 : 0 ≤ x.toInt) (h1 : x.toInt ≤ 4095) : fJ6_bitCount_0f7a4 τ σ x = some (Int32.ofNat (popN x.toInt.toNat 12)) := by
  have e : fJ6_bitCount_0f7a4 τ σ x = some (bcF x) := rfl
  have h := List.all_eq_true.mp bc_all x.toInt.toNat (List.mem_range.mpr (by omega))
  have ex : Int32.ofNat x.toInt.toNat = x := by
    refine Int32.toInt_inj.mp ?_
    rw [Int32.toInt_ofNat_of_lt (by omega)]; omega
  rw [ex] at h
  rw [e, of_decide_eq_true h]
theorem popN_s (x n : Nat) : popN x (n + 1) = popN x n + (if x.testBit n then 1 else 0) := rfl
theorem popN_le (x n : Nat) : popN x n ≤ n := by
  induction n with
  | zero => exact Nat.le_refl _
  | succ n ih => unfold popN; split <;> omega
theorem popN_hi {x n m : Nat} (h : n ≤ m) (hx : x < 2 ^ n) : popN x m = popN x n := by
  induction m with
  | zero => rw [show n = 0 by omega]
  | succ m ih =>
    by_cases q : n = m + 1
    · rw [q]
    · rw [popN_s, Nat.testBit_lt_two_pow (Nat.lt_of_lt_of_le hx (Nat.pow_le_pow_right (by decide) (by omega))), ih (by omega)]
      rfl
theorem bit_set (x i j : Nat) : (x ||| 2 ^ i).testBit j = (x.testBit j || decide (i = j)) := by
  rw [Nat.testBit_or, Nat.testBit_two_pow]
theorem popN_set {x i : Nat} (n : Nat) : popN (x ||| 2 ^ i) n = popN x n + (if i < n ∧ x.testBit i = false then 1 else 0) := by
  induction n with
  | zero => rw [if_neg (by omega)]; rfl
  | succ n ih =>
    rw [popN_s, popN_s, ih, bit_set]
    by_cases q : i = n
    · subst q
      cases hx : x.testBit i <;> simp
    · have e : decide (i = n) = false := by simpa using q
      rw [e, Bool.or_false]
      by_cases q2 : i < n ∧ x.testBit i = false
      · rw [if_pos q2, if_pos (c := i < n + 1 ∧ x.testBit i = false) ⟨by have := q2.1; omega, q2.2⟩]; omega
      · rw [if_neg q2, if_neg (c := i < n + 1 ∧ x.testBit i = false) (fun w => q2 ⟨by have := w.1; omega, w.2⟩)]; omega
theorem or_shl {a x : Int32} (h0 : 0 ≤ a.toInt) (h1 : a.toInt ≤ 63) (x0 : 0 ≤ x.toInt) (x5 : x.toInt ≤ 5) : (a ||| ((1 : Int32) <<< (x &&& 31))).toInt.toNat = a.toInt.toNat ||| 2 ^ x.toInt.toNat ∧ 0 ≤ (a ||| ((1 : Int32) <<< (x &&& 31))).toInt ∧ (a ||| ((1 : Int32) <<< (x &&& 31))).toInt ≤ 63 := by
  have b := i32_shlB (x := x) 5 x0 (by omega) (by decide)
  have r := i32_orB (a := a) (b := (1 : Int32) <<< (x &&& 31)) 6 63 (by decide) (by decide) h0 h1 (by omega) (by omega)
  refine ⟨?_, r⟩
  have key : ∀ i j : Nat, i < 64 → j < 6 → (Int32.ofNat i ||| ((1 : Int32) <<< (Int32.ofNat j &&& 31))).toInt.toNat = i ||| 2 ^ j := by
    intro i j hi hj
    have := (by decide +kernel : ∀ i : Fin 64, ∀ j : Fin 6, (Int32.ofNat i.val ||| ((1 : Int32) <<< (Int32.ofNat j.val &&& 31))).toInt.toNat = i.val ||| 2 ^ j.val)
    exact this ⟨i, hi⟩ ⟨j, hj⟩
  have ea : Int32.ofNat a.toInt.toNat = a := Int32.toInt_inj.mp (by rw [Int32.toInt_ofNat_of_lt (by omega)]; omega)
  have ex : Int32.ofNat x.toInt.toNat = x := Int32.toInt_inj.mp (by rw [Int32.toInt_ofNat_of_lt (by omega)]; omega)
  have := key a.toInt.toNat x.toInt.toNat (by omega) (by omega)
  rw [ea, ex] at this
  exact this
theorem i_mx {v w : Int32} : (if w < v then v else w) = (if v ≤ w then w else v) := by
  by_cases c : w < v
  · rw [if_pos c, if_neg (fun q => by have a := Int32.lt_iff_toInt_lt.mp c; have b := Int32.le_iff_toInt_le.mp q; omega)]
  · rw [if_neg c, if_pos (Int32.le_iff_toInt_le.mpr (by have : ¬ w.toInt < v.toInt := fun q => c (Int32.lt_iff_toInt_lt.mpr q); omega))]
section LOOK
variable {τ : Nat} {t : Int32}
/-- the draft of the class and row t of the reference hold the same set, weights and streets -/
def DR (t : Int32) (σ ρ : S2) : Prop := (0 ≤ t.toInt ∧ t.toInt ≤ 10) ∧ ρ.1 8 t.toNatClampNeg = σ.1 182 0 ∧ (0 ≤ (σ.1 182 0).toInt ∧ (σ.1 182 0).toInt.toNat < 2 ^ (ρ.1 0 3).toInt.toNat) ∧ (0 ≤ (ρ.1 0 3).toInt ∧ (ρ.1 0 3).toInt ≤ 12) ∧ ∀ k : Nat, k < 12 → (σ.1 182 0).toInt.toNat.testBit k = true → ρ.1 15 (12 * t.toNatClampNeg + k) = σ.1 183 k ∧ ρ.1 16 (12 * t.toNatClampNeg + k) = σ.1 9 k ∧ 0 ≤ (σ.1 9 k).toInt ∧ (σ.1 9 k).toInt ≤ 5
/-- the loop of look against the loop of numbers, from keeper k on -/
def LK (t : Int32) (k : Int32) (bits : Int32) (σ ρ : S2) : Prop := σ.1 13 6 = ρ.1 0 50 ∧ σ.1 13 7 = ρ.1 0 51 ∧ ρ.1 0 48 = Int32.ofNat (popN (σ.1 182 0).toInt.toNat k.toInt.toNat) ∧ ρ.1 0 49 = Int32.ofNat (popN bits.toInt.toNat 12) ∧ 0 ≤ bits.toInt ∧ bits.toInt ≤ 63
theorem isIn_q {ρ : S2} {k r : Int32} (h : fX12_isIn ρ t k = some r) (b0 : 0 ≤ (ρ.1 8 t.toNatClampNeg).toInt) (b1 : (ρ.1 8 t.toNatClampNeg).toInt ≤ 4095) (k0 : 0 ≤ k.toInt) (k1 : k.toInt ≤ 11) : r = if (ρ.1 8 t.toNatClampNeg).toInt.toNat.testBit k.toNatClampNeg then 1 else 0 := by
  unfold fX12_isIn fX12_isIn_0 at h
  obtain ⟨_, h⟩ := ckS h
  have h : (if ((ρ.1 8 t.toNatClampNeg >>> (k &&& 31)) &&& 1) = 1 then some (1 : Int32) else some 0) = some r := h
  have e := bit_sar b0 b1 k0 k1
  cases q : (ρ.1 8 t.toNatClampNeg).toInt.toNat.testBit k.toNatClampNeg
  · rw [q, if_neg (by decide)] at e
    rw [if_neg (fun w => by rw [w] at e; exact absurd e (by decide))] at h
    cases h; rfl
  · rw [q, if_pos rfl] at e
    rw [if_pos (Int32.toInt_inj.mp (by rw [e]; rfl))] at h
    cases h; rfl
end LOOK
section LOOK2
variable {τ : Nat} {t : Int32}
theorem pop_step {x k : Int32} (k0 : 0 ≤ k.toInt) (k1 : k.toInt ≤ 11) : popN x.toInt.toNat (k + 1).toInt.toNat = popN x.toInt.toNat k.toInt.toNat + (if x.toInt.toNat.testBit k.toNatClampNeg then 1 else 0) := by
  have z1 := i_1
  have e : (k + 1).toInt = k.toInt + 1 := by rw [i32_add (by omega) (by omega)]; omega
  have n := i32_nat k0
  rw [show (k + 1).toInt.toNat = k.toInt.toNat + 1 by omega, show k.toNatClampNeg = k.toInt.toNat by omega]
  rfl
theorem ofNat_succ {n : Nat} : Int32.ofNat (n + 1) = Int32.ofNat n + 1 := by
  rw [Int32.ofNat_add]; rfl
/-- look goes on alone behind the last keeper: it meets nobody -/
theorem look_end {x3 : Int32} : ∀ (N : Nat) (σ σ' : S2) (x4 : Int32) (u : Unit), 0 ≤ x4.toInt → x4.toInt ≤ 12 → 0 ≤ (σ.1 182 0).toInt → (σ.1 182 0).toInt.toNat < 2 ^ x4.toInt.toNat → 0 ≤ x3.toInt → x3.toInt ≤ 63 → fX3_look_26 τ N σ x3 x4 = some (u, σ') → σ' = ux_wI σ 13 5 (Int32.ofNat (popN x3.toInt.toNat 12)) := by
  have z1 := i_1
  have z12 := i_12
  intro N
  induction N with
  | zero => intro σ σ' x4 u _ _ _ _ _ _ h; cases h
  | succ N ih =>
    intro σ σ' x4 u h0 h12 m0 m1 b0 b1 h
    unfold fX3_look_26 at h
    by_cases c : 12 ≤ x4
    · rw [if_pos c, bitCount_eq b0 (by omega)] at h
      have h : some ((), ux_wI σ 13 5 (Int32.ofNat (popN x3.toInt.toNat 12))) = some (u, σ') := h
      cases h; rfl
    · rw [if_neg c] at h
      have c' : ¬ (12 : Int32).toInt ≤ x4.toInt := fun w => c (Int32.le_iff_toInt_le.mpr w)
      have m4 : (σ.1 182 0).toInt ≤ 4095 := by
        have : 2 ^ x4.toInt.toNat ≤ 2 ^ 12 := Nat.pow_le_pow_right (by decide) (by omega)
        have e : 2 ^ 12 = 4096 := by decide
        omega
      have e := bit_sar m0 m4 h0 (by omega)
      have n4 := i32_nat h0
      have q : (σ.1 182 0).toInt.toNat.testBit x4.toNatClampNeg = false := by
        refine Nat.testBit_lt_two_pow ?_
        rw [show x4.toNatClampNeg = x4.toInt.toNat by omega]
        exact m1
      rw [q, if_neg (by decide)] at e
      rw [if_pos (Int32.toInt_inj.mp (by rw [e]; rfl))] at h
      have h : fX3_look_26 τ N σ x3 (x4 + 1) = some (u, σ') := h
      have e4 : (x4 + 1).toInt = x4.toInt + 1 := by rw [i32_add (by omega) (by omega)]; omega
      refine ih σ σ' (x4 + 1) u (by omega) (by omega) m0 ?_ b0 b1 h
      exact Nat.lt_of_lt_of_le m1 (Nat.pow_le_pow_right (by decide) (by omega))
theorem DR.fr {σ ρ σ2 ρ2 : S2} (h : DR t σ ρ) (e8 : ∀ i, ρ2.1 8 i = ρ.1 8 i) (e3 : ρ2.1 0 3 = ρ.1 0 3) (e15 : ∀ i, ρ2.1 15 i = ρ.1 15 i) (e16 : ∀ i, ρ2.1 16 i = ρ.1 16 i) (s182 : σ2.1 182 0 = σ.1 182 0) (s183 : ∀ i, σ2.1 183 i = σ.1 183 i) (s9 : ∀ i, σ2.1 9 i = σ.1 9 i) : DR t σ2 ρ2 := by
  obtain ⟨a, b, c, d, e⟩ := h
  unfold DR
  rw [e8, e3, s182]
  refine ⟨a, b, c, d, fun k hk ht => ?_⟩
  rw [e15, e16, s183, s9]; exact e k hk ht
set_option maxRecDepth 100000 in
theorem look_lp : ∀ (N M : Nat) (σ ρ σ' ρ' : S2) (k bits : Int32) (u u2 : Unit), DR t σ ρ → LK t k bits σ ρ → 0 ≤ k.toInt → k.toInt ≤ (ρ.1 0 3).toInt → fX3_look_26 τ N σ bits k = some (u, σ') → fX12_numbers_24 M ρ t bits k = some (u2, ρ') → σ'.1 13 6 = ρ'.1 0 50 ∧ σ'.1 13 7 = ρ'.1 0 51 ∧ ρ'.1 0 48 = Int32.ofNat (popN (σ.1 182 0).toInt.toNat 12) ∧ ρ'.1 0 49 = σ'.1 13 5 ∧ (∀ k i : Nat, k ≠ 13 → σ'.1 k i = σ.1 k i) ∧ (∀ i : Nat, i < 5 → σ'.1 13 i = σ.1 13 i) ∧ (∀ k i : Nat, k ≠ 0 → ρ'.1 k i = ρ.1 k i) ∧ ∀ i : Nat, i < 48 → ρ'.1 0 i = ρ.1 0 i := by
  have z0 := i_0
  have z1 := i_1
  have z12 := i_12
  intro N
  induction N with
  | zero => intro M σ ρ σ' ρ' k bits u u2 _ _ _ _ h; cases h
  | succ N ih =>
    intro M σ ρ σ' ρ' k bits u u2 hD hL k0 kn h h2
    cases M with
    | zero => cases h2
    | succ M =>
      obtain ⟨⟨t0, t1⟩, d1, ⟨d2, d3⟩, ⟨d4, d5⟩, d6⟩ := id hD
      obtain ⟨l1, l2, l3, l4, l5, l6⟩ := hL
      have nk := i32_nat k0
      have nt := i32_nat t0
      have m4 : (σ.1 182 0).toInt ≤ 4095 := by
        have : 2 ^ (ρ.1 0 3).toInt.toNat ≤ 2 ^ 12 := Nat.pow_le_pow_right (by decide) (by omega)
        have e : 2 ^ 12 = 4096 := by decide
        omega
      by_cases c : ρ.1 0 3 ≤ k
      · have c' := Int32.le_iff_toInt_le.mp c
        have ek : k.toInt = (ρ.1 0 3).toInt := by omega
        have e1 := look_end (N + 1) σ σ' k u k0 (by omega) d2 (by rw [ek]; exact d3) l5 l6 h
        unfold fX12_numbers_24 at h2
        rw [if_pos c] at h2
        cases h2
        subst e1
        refine ⟨l1, l2, ?_, l4, fun k i hk => ?_, fun i hi => ?_, fun _ _ _ => rfl, fun _ _ => rfl⟩
        · rw [l3, ← popN_hi (m := 12) (by omega) (by rw [ek]; exact d3)]
        · show (if k = 13 then _ else σ.1 k) i = _
          rw [if_neg hk]
        · show (if i = 5 then _ else σ.1 13 i) = _
          rw [if_neg (by omega)]
      · have c' : ¬ (ρ.1 0 3).toInt ≤ k.toInt := fun w => c (Int32.le_iff_toInt_le.mpr w)
        have e4 : (k + 1).toInt = k.toInt + 1 := by rw [i32_add (by omega) (by omega)]; omega
        unfold fX3_look_26 fX3_look_94 at h
        unfold fX12_numbers_24 fX12_numbers_145 at h2
        rw [if_neg (fun w => by have := Int32.le_iff_toInt_le.mp w; omega)] at h
        rw [if_neg c] at h2
        obtain ⟨r7, f7, h2⟩ := biS h2
        have e7 := isIn_q f7 (by rw [d1]; exact d2) (by rw [d1]; exact m4) k0 (by omega)
        rw [d1] at e7
        have eb := bit_sar d2 m4 k0 (by omega)
        have ps := pop_step (x := σ.1 182 0) k0 (by omega)
        cases q : (σ.1 182 0).toInt.toNat.testBit k.toNatClampNeg
        · rw [q] at e7 eb ps
          rw [if_neg (by decide)] at e7 eb ps
          rw [if_pos (Int32.toInt_inj.mp (by rw [eb]; rfl))] at h
          rw [if_pos e7] at h2
          have h : fX3_look_26 τ N σ bits (k + 1) = some (u, σ') := h
          have h2 : fX12_numbers_24 M ρ t bits (k + 1) = some (u2, ρ') := h2
          exact ih M σ ρ σ' ρ' (k + 1) bits u u2 hD ⟨l1, l2, by rw [l3, ps, Nat.add_zero], l4, l5, l6⟩ (by omega) (by omega) h h2
        · rw [q] at e7 eb ps
          rw [if_pos rfl] at e7 eb ps
          rw [if_neg (fun w => by rw [w] at eb; exact absurd eb (by decide))] at h
          rw [if_neg (by rw [e7]; decide)] at h2
          obtain ⟨g1, g2, g3, g4⟩ := d6 k.toNatClampNeg (by omega) q
          have e12 : (12 : Int32).toInt = 12 := rfl
          have m12 := i32_mulL (a := 12) (b := t) e12 (by omega) (by omega)
          have ix : (12 * t + k).toInt = 12 * t.toInt + k.toInt := by rw [i32_add (by omega) (by omega)]; omega
          have nx := i32_nat (i := 12 * t + k) (by omega)
          have ex : (12 * t + k).toNatClampNeg = 12 * t.toNatClampNeg + k.toNatClampNeg := by omega
          have s0 : 0 ≤ (σ.1 9 k.toNatClampNeg).toInt ∧ (σ.1 9 k.toNatClampNeg).toInt ≤ 5 := ⟨g3, g4⟩
          obtain ⟨o1, o2, o3⟩ := or_shl l5 l6 s0.1 s0.2
          have nS := i32_nat s0.1
          have sb := bit_sar (a := bits) (x := σ.1 9 k.toNatClampNeg) l5 (by omega) s0.1 (by omega)
          have pS := popN_set (x := bits.toInt.toNat) (i := (σ.1 9 k.toNatClampNeg).toInt.toNat) 12
          obtain ⟨_, h⟩ := ckS h
          have h : ck 12 k (nm (σ.1 183 k.toNatClampNeg) (fun v7 => nm (ux_wI σ 13 6 ((σ.1 13 6) + v7)) (fun σ8 => ck 12 k (nm (σ8.1 183 k.toNatClampNeg) (fun v9 => nm (ux_wI σ8 13 7 (if (σ8.1 13 7) < v9 then v9 else (σ8.1 13 7))) (fun σ10 => nm (k + 1) (fun v1 => fX3_look_26 τ N σ10 (bits ||| (1 <<< (σ.1 9 k.toNatClampNeg &&& 31))) v1))))))) = some (u, σ') := h
          obtain ⟨_, h⟩ := ckS h
          have h : ck 12 k (nm (σ.1 183 k.toNatClampNeg) (fun v9 => nm (ux_wI (ux_wI σ 13 6 (σ.1 13 6 + σ.1 183 k.toNatClampNeg)) 13 7 (if σ.1 13 7 < v9 then v9 else σ.1 13 7)) (fun σ10 => nm (k + 1) (fun v1 => fX3_look_26 τ N σ10 (bits ||| (1 <<< (σ.1 9 k.toNatClampNeg &&& 31))) v1)))) = some (u, σ') := h
          obtain ⟨_, h⟩ := ckS h
          have h : fX3_look_26 τ N (ux_wI (ux_wI σ 13 6 (σ.1 13 6 + σ.1 183 k.toNatClampNeg)) 13 7 (if σ.1 13 7 < σ.1 183 k.toNatClampNeg then σ.1 183 k.toNatClampNeg else σ.1 13 7)) (bits ||| (1 <<< (σ.1 9 k.toNatClampNeg &&& 31))) (k + 1) = some (u, σ') := h
          obtain ⟨_, h2⟩ := ckS h2
          rw [ex, g1] at h2
          have h2 : ck 132 (12 * t + k) (nm (ρ.1 16 (12 * t.toNatClampNeg + k.toNatClampNeg)) (fun v11 => if ((bits >>> (v11 &&& 31)) &&& 1) = 0 then fX12_numbers_92 (fX12_numbers_24 M) (ux_wI ρ 0 48 (ρ.1 0 48 + 1)) t bits k (σ.1 183 k.toNatClampNeg) 1 (ρ.1 0 49) else fX12_numbers_92 (fX12_numbers_24 M) (ux_wI ρ 0 48 (ρ.1 0 48 + 1)) t bits k (σ.1 183 k.toNatClampNeg) 0 (ρ.1 0 49))) = some (u2, ρ') := h2
          obtain ⟨_, h2⟩ := ckS h2
          rw [g2] at h2
          have fin : ∀ d : Int32, d = Int32.ofNat (if (σ.1 9 k.toNatClampNeg).toInt.toNat < 12 ∧ bits.toInt.toNat.testBit (σ.1 9 k.toNatClampNeg).toInt.toNat = false then 1 else 0) → fX12_numbers_92 (fX12_numbers_24 M) (ux_wI ρ 0 48 (ρ.1 0 48 + 1)) t bits k (σ.1 183 k.toNatClampNeg) d (ρ.1 0 49) = some (u2, ρ') → σ'.1 13 6 = ρ'.1 0 50 ∧ σ'.1 13 7 = ρ'.1 0 51 ∧ ρ'.1 0 48 = Int32.ofNat (popN (σ.1 182 0).toInt.toNat 12) ∧ ρ'.1 0 49 = σ'.1 13 5 ∧ (∀ k i : Nat, k ≠ 13 → σ'.1 k i = σ.1 k i) ∧ (∀ i : Nat, i < 5 → σ'.1 13 i = σ.1 13 i) ∧ (∀ k i : Nat, k ≠ 0 → ρ'.1 k i = ρ.1 k i) ∧ ∀ i : Nat, i < 48 → ρ'.1 0 i = ρ.1 0 i := fun d ed y => by
            unfold fX12_numbers_92 fX12_numbers_142 fX12_numbers_145 at y
            have y : ck 132 (12 * t + k) (nm (ρ.1 16 (12 * t + k).toNatClampNeg) (fun v4 => nm (bits ||| (1 <<< (v4 &&& 31))) (fun v5 => nm (ux_wI (ux_wI (ux_wI ρ 0 48 (ρ.1 0 48 + 1)) 0 49 (ρ.1 0 49 + d)) 0 50 (ρ.1 0 50 + σ.1 183 k.toNatClampNeg)) (fun σ6 => if σ.1 183 k.toNatClampNeg ≤ ρ.1 0 51 then nm (ux_wI σ6 0 51 (ρ.1 0 51)) (fun σ2 => nm (k + 1) (fun v1 => fX12_numbers_24 M σ2 t v5 v1)) else nm (ux_wI σ6 0 51 (σ.1 183 k.toNatClampNeg)) (fun σ2 => nm (k + 1) (fun v1 => fX12_numbers_24 M σ2 t v5 v1)))))) = some (u2, ρ') := y
            obtain ⟨_, y⟩ := ckS y
            rw [ex, g2] at y
            have y : fX12_numbers_24 M (ux_wI (ux_wI (ux_wI (ux_wI ρ 0 48 (ρ.1 0 48 + 1)) 0 49 (ρ.1 0 49 + d)) 0 50 (ρ.1 0 50 + σ.1 183 k.toNatClampNeg)) 0 51 (if σ.1 183 k.toNatClampNeg ≤ ρ.1 0 51 then ρ.1 0 51 else σ.1 183 k.toNatClampNeg)) t (bits ||| (1 <<< (σ.1 9 k.toNatClampNeg &&& 31))) (k + 1) = some (u2, ρ') := by
              by_cases w : σ.1 183 k.toNatClampNeg ≤ ρ.1 0 51
              · rw [if_pos w]
                have y : (if σ.1 183 k.toNatClampNeg ≤ ρ.1 0 51 then fX12_numbers_24 M (ux_wI (ux_wI (ux_wI (ux_wI ρ 0 48 (ρ.1 0 48 + 1)) 0 49 (ρ.1 0 49 + d)) 0 50 (ρ.1 0 50 + σ.1 183 k.toNatClampNeg)) 0 51 (ρ.1 0 51)) t (bits ||| (1 <<< (σ.1 9 k.toNatClampNeg &&& 31))) (k + 1) else fX12_numbers_24 M (ux_wI (ux_wI (ux_wI (ux_wI ρ 0 48 (ρ.1 0 48 + 1)) 0 49 (ρ.1 0 49 + d)) 0 50 (ρ.1 0 50 + σ.1 183 k.toNatClampNeg)) 0 51 (σ.1 183 k.toNatClampNeg)) t (bits ||| (1 <<< (σ.1 9 k.toNatClampNeg &&& 31))) (k + 1)) = some (u2, ρ') := y
                rw [if_pos w] at y; exact y
              · rw [if_neg w]
                have y : (if σ.1 183 k.toNatClampNeg ≤ ρ.1 0 51 then fX12_numbers_24 M (ux_wI (ux_wI (ux_wI (ux_wI ρ 0 48 (ρ.1 0 48 + 1)) 0 49 (ρ.1 0 49 + d)) 0 50 (ρ.1 0 50 + σ.1 183 k.toNatClampNeg)) 0 51 (ρ.1 0 51)) t (bits ||| (1 <<< (σ.1 9 k.toNatClampNeg &&& 31))) (k + 1) else fX12_numbers_24 M (ux_wI (ux_wI (ux_wI (ux_wI ρ 0 48 (ρ.1 0 48 + 1)) 0 49 (ρ.1 0 49 + d)) 0 50 (ρ.1 0 50 + σ.1 183 k.toNatClampNeg)) 0 51 (σ.1 183 k.toNatClampNeg)) t (bits ||| (1 <<< (σ.1 9 k.toNatClampNeg &&& 31))) (k + 1)) = some (u2, ρ') := y
                rw [if_neg w] at y; exact y
            have hL' : LK t (k + 1) (bits ||| (1 <<< (σ.1 9 k.toNatClampNeg &&& 31))) (ux_wI (ux_wI σ 13 6 (σ.1 13 6 + σ.1 183 k.toNatClampNeg)) 13 7 (if σ.1 13 7 < σ.1 183 k.toNatClampNeg then σ.1 183 k.toNatClampNeg else σ.1 13 7)) (ux_wI (ux_wI (ux_wI (ux_wI ρ 0 48 (ρ.1 0 48 + 1)) 0 49 (ρ.1 0 49 + d)) 0 50 (ρ.1 0 50 + σ.1 183 k.toNatClampNeg)) 0 51 (if σ.1 183 k.toNatClampNeg ≤ ρ.1 0 51 then ρ.1 0 51 else σ.1 183 k.toNatClampNeg)) := by
              refine ⟨?_, ?_, ?_, ?_, o2, o3⟩
              · show σ.1 13 6 + σ.1 183 k.toNatClampNeg = ρ.1 0 50 + σ.1 183 k.toNatClampNeg
                rw [l1]
              · show (if σ.1 13 7 < σ.1 183 k.toNatClampNeg then σ.1 183 k.toNatClampNeg else σ.1 13 7) = (if σ.1 183 k.toNatClampNeg ≤ ρ.1 0 51 then ρ.1 0 51 else σ.1 183 k.toNatClampNeg)
                rw [l2]; exact i_mx
              · show ρ.1 0 48 + 1 = Int32.ofNat (popN (σ.1 182 0).toInt.toNat (k + 1).toInt.toNat)
                rw [l3, ps, ofNat_succ]
              · show ρ.1 0 49 + d = Int32.ofNat (popN (bits ||| (1 <<< (σ.1 9 k.toNatClampNeg &&& 31))).toInt.toNat 12)
                rw [o1, pS, Int32.ofNat_add, ← ed, l4]
            have := ih M (ux_wI (ux_wI σ 13 6 (σ.1 13 6 + σ.1 183 k.toNatClampNeg)) 13 7 (if σ.1 13 7 < σ.1 183 k.toNatClampNeg then σ.1 183 k.toNatClampNeg else σ.1 13 7)) (ux_wI (ux_wI (ux_wI (ux_wI ρ 0 48 (ρ.1 0 48 + 1)) 0 49 (ρ.1 0 49 + d)) 0 50 (ρ.1 0 50 + σ.1 183 k.toNatClampNeg)) 0 51 (if σ.1 183 k.toNatClampNeg ≤ ρ.1 0 51 then ρ.1 0 51 else σ.1 183 k.toNatClampNeg)) σ' ρ' (k + 1) (bits ||| (1 <<< (σ.1 9 k.toNatClampNeg &&& 31))) u u2 (hD.fr (fun _ => rfl) rfl (fun _ => rfl) (fun _ => rfl) rfl (fun _ => rfl) (fun _ => rfl)) hL' (by omega) (by show (k + 1).toInt ≤ (ρ.1 0 3).toInt; omega) h y
            obtain ⟨a1, a2, a3, a4, a5, a6, a7, a8⟩ := this
            refine ⟨a1, a2, a3, a4, fun k9 i hk => ?_, fun i hi => ?_, fun k9 i hk => ?_, fun i hi => ?_⟩
            · rw [a5 k9 i hk]
              show (if k9 = 13 then _ else if k9 = 13 then _ else σ.1 k9) i = _
              rw [if_neg hk, if_neg hk]
            · rw [a6 i hi]
              show (if i = 7 then _ else if i = 6 then _ else σ.1 13 i) = _
              rw [if_neg (by omega), if_neg (by omega)]
            · rw [a7 k9 i hk]
              show (if k9 = 0 then _ else if k9 = 0 then _ else if k9 = 0 then _ else if k9 = 0 then _ else ρ.1 k9) i = _
              rw [if_neg hk, if_neg hk, if_neg hk, if_neg hk]
            · rw [a8 i hi]
              show (if i = 51 then _ else if i = 50 then _ else if i = 49 then _ else if i = 48 then _ else ρ.1 0 i) = _
              rw [if_neg (by omega), if_neg (by omega), if_neg (by omega), if_neg (by omega)]
          have eS : (σ.1 9 k.toNatClampNeg).toNatClampNeg = (σ.1 9 k.toNatClampNeg).toInt.toNat := by omega
          rw [eS] at sb
          cases qS : bits.toInt.toNat.testBit (σ.1 9 k.toNatClampNeg).toInt.toNat
          · rw [qS, if_neg (by decide)] at sb
            have h2 : (if ((bits >>> (σ.1 9 k.toNatClampNeg &&& 31)) &&& 1) = 0 then fX12_numbers_92 (fX12_numbers_24 M) (ux_wI ρ 0 48 (ρ.1 0 48 + 1)) t bits k (σ.1 183 k.toNatClampNeg) 1 (ρ.1 0 49) else fX12_numbers_92 (fX12_numbers_24 M) (ux_wI ρ 0 48 (ρ.1 0 48 + 1)) t bits k (σ.1 183 k.toNatClampNeg) 0 (ρ.1 0 49)) = some (u2, ρ') := h2
            rw [if_pos (Int32.toInt_inj.mp (by rw [sb]; rfl))] at h2
            exact fin 1 (by rw [if_pos ⟨by omega, qS⟩]; rfl) h2
          · rw [qS, if_pos rfl] at sb
            have h2 : (if ((bits >>> (σ.1 9 k.toNatClampNeg &&& 31)) &&& 1) = 0 then fX12_numbers_92 (fX12_numbers_24 M) (ux_wI ρ 0 48 (ρ.1 0 48 + 1)) t bits k (σ.1 183 k.toNatClampNeg) 1 (ρ.1 0 49) else fX12_numbers_92 (fX12_numbers_24 M) (ux_wI ρ 0 48 (ρ.1 0 48 + 1)) t bits k (σ.1 183 k.toNatClampNeg) 0 (ρ.1 0 49)) = some (u2, ρ') := h2
            rw [if_neg (fun w => by rw [w] at sb; exact absurd sb (by decide))] at h2
            exact fin 0 (by rw [if_neg (fun w => by rw [qS] at w; exact absurd w.2 (by decide))]; rfl) h2
end LOOK2
