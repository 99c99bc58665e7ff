/-! safety of the decompiled functions: an answer comes, and the places stay within their bounds -/
def Ok {α : Type} (Q : α → Prop) (o : Option α) : Prop := ∃ z, o = some z ∧ Q z
section OK
variable {α β : Type} {Q : β → Prop}
theorem ok_some {z : β} (h : Q z) : Ok Q (some z) := ⟨z, rfl, h⟩
theorem ok_nm {a : α} {K : α → Option β} (h : ∀ v, v = a → Ok Q (K v)) : Ok Q (nm a K) := h a rfl
theorem ok_nmI {a : Int32} {K : Int32 → Option β} (h : ∀ v : Int32, v = a → v.toInt = a.toInt → Ok Q (K v)) : Ok Q (nm a K) := h a rfl rfl
theorem i32_neg {i : Int32} (h0 : 0 ≤ i.toInt) : ¬ i < 0 := fun q => by
  have := Int32.lt_iff_toInt_lt.mp q
  have e : (0 : Int32).toInt = 0 := rfl
  omega
theorem i32_nat {i : Int32} (h0 : 0 ≤ i.toInt) : (i.toNatClampNeg : Int) = i.toInt := by
  have : i.toNatClampNeg = i.toInt.toNat := rfl
  rw [this]; omega
theorem ok_ck {n : Nat} {i : Int32} {K : Option β} (h0 : 0 ≤ i.toInt) (h1 : i.toInt < (n : Int)) (h : Ok Q K) : Ok Q (ck n i K) := by
  have e := i32_nat h0
  unfold ck
  rw [if_neg (fun q => q.elim (i32_neg h0) (fun q => by omega))]
  exact h
theorem ok_dz {y : Int32} {K : Option β} (h0 : y.toInt ≠ 0) (h : Ok Q K) : Ok Q (dz y K) := by
  unfold dz
  rw [if_neg (fun q => h0 (by rw [q]; rfl))]
  exact h
theorem ok_bi {P : α → Prop} {o : Option α} {K : α → Option β} (h : Ok P o) (k : ∀ r, P r → Ok Q (K r)) : Ok Q (bi o K) := by
  obtain ⟨z, rfl, hz⟩ := h
  exact k z hz
theorem ok_bs {P : α × S2 → Prop} {o : Option (α × S2)} {K : α → S2 → Option β} (h : Ok P o) (k : ∀ r σ, P (r, σ) → Ok Q (K r σ)) : Ok Q (bs o K) := by
  obtain ⟨z, rfl, hz⟩ := h
  exact k z.1 z.2 hz
theorem ok_le {a b : Int32} {A B : Option β} (h1 : a.toInt ≤ b.toInt → Ok Q A) (h2 : b.toInt < a.toInt → Ok Q B) : Ok Q (if a ≤ b then A else B) := by
  by_cases h : a ≤ b
  · rw [if_pos h]; exact h1 (Int32.le_iff_toInt_le.mp h)
  · rw [if_neg h]; exact h2 (Int.not_le.mp (fun q => h (Int32.le_iff_toInt_le.mpr q)))
theorem ok_lt {a b : Int32} {A B : Option β} (h1 : a.toInt < b.toInt → Ok Q A) (h2 : b.toInt ≤ a.toInt → Ok Q B) : Ok Q (if a < b then A else B) := by
  by_cases h : a < b
  · rw [if_pos h]; exact h1 (Int32.lt_iff_toInt_lt.mp h)
  · rw [if_neg h]; exact h2 (Int.not_lt.mp (fun q => h (Int32.lt_iff_toInt_lt.mpr q)))
theorem ok_eq {a b : Int32} {A B : Option β} (h1 : a.toInt = b.toInt → Ok Q A) (h2 : a.toInt ≠ b.toInt → Ok Q B) : Ok Q (if a = b then A else B) := by
  by_cases h : a = b
  · rw [if_pos h]; exact h1 (by rw [h])
  · rw [if_neg h]; exact h2 (fun q => h (Int32.toInt_inj.mp q))
theorem ok_mono {P : β → Prop} {o : Option β} (h : Ok P o) (k : ∀ z, P z → Q z) : Ok Q o := by
  obtain ⟨z, e, hz⟩ := h
  exact ⟨z, e, k z hz⟩
theorem i32_bit {v : Int32} (h0 : 0 ≤ v.toInt) (h1 : v.toInt ≤ 1) : v = 0 ∨ v = 1 := by
  by_cases h : v.toInt = 0
  · exact Or.inl (Int32.toInt_inj.mp h)
  · exact Or.inr (Int32.toInt_inj.mp (by have e : (1 : Int32).toInt = 1 := rfl; omega))
theorem ok_zb {v : Int32} {K : Option β} (h0 : 0 ≤ v.toInt) (h1 : v.toInt ≤ 1) (h : Ok Q K) : Ok Q (zb v K) := by
  unfold zb
  rcases i32_bit h0 h1 with rfl | rfl
  · rw [if_pos (by decide)]; exact h
  · rw [if_pos (by decide)]; exact h
theorem ok_zf {v : Int32} {K : Option β} (h0 : 0 ≤ v.toInt) (h1 : v.toInt ≤ 1) (h : Ok Q K) : Ok Q (zf v K) := by
  unfold zf
  rcases i32_bit h0 h1 with rfl | rfl
  · rw [if_pos (by decide)]; exact h
  · rw [if_pos (by decide)]; exact h
end OK
theorem i32_rng (a : Int32) : -2147483648 ≤ a.toInt ∧ a.toInt ≤ 2147483647 := ⟨Int32.le_toInt a, by have := Int32.toInt_lt a; omega⟩
theorem i32_add {a b : Int32} (h1 : -2147483648 ≤ a.toInt + b.toInt) (h2 : a.toInt + b.toInt ≤ 2147483647) : (a + b).toInt = a.toInt + b.toInt := by
  rw [Int32.toInt_add]; exact Int.bmod_eq_of_le (by omega) (by omega)
theorem i32_sub {a b : Int32} (h1 : -2147483648 ≤ a.toInt - b.toInt) (h2 : a.toInt - b.toInt ≤ 2147483647) : (a - b).toInt = a.toInt - b.toInt := by
  rw [Int32.toInt_sub]; exact Int.bmod_eq_of_le (by omega) (by omega)
theorem i32_neg' {a : Int32} (h1 : -2147483647 ≤ a.toInt) : (-a).toInt = -a.toInt := by
  have := i32_rng a
  rw [Int32.toInt_neg]; exact Int.bmod_eq_of_le (by omega) (by omega)
theorem i32_mulL {a b : Int32} {c : Int} (hc : a.toInt = c) (h1 : -2147483648 ≤ c * b.toInt) (h2 : c * b.toInt ≤ 2147483647) : (a * b).toInt = c * b.toInt := by
  rw [Int32.toInt_mul, hc]; exact Int.bmod_eq_of_le (by omega) (by omega)
theorem i32_mulR {a b : Int32} {c : Int} (hc : b.toInt = c) (h1 : -2147483648 ≤ a.toInt * c) (h2 : a.toInt * c ≤ 2147483647) : (a * b).toInt = a.toInt * c := by
  rw [Int32.toInt_mul, hc]; exact Int.bmod_eq_of_le (by omega) (by omega)
theorem i32_mulB {a b : Int32} (A B : Int) (h1 : 0 ≤ a.toInt) (h2 : a.toInt ≤ A) (h3 : 0 ≤ b.toInt) (h4 : b.toInt ≤ B) (h : A * B ≤ 2147483647) : 0 ≤ (a * b).toInt ∧ (a * b).toInt ≤ A * B := by
  have p1 : 0 ≤ a.toInt * b.toInt := Int.mul_nonneg h1 h3
  have p2 : a.toInt * b.toInt ≤ A * B := Int.mul_le_mul h2 h4 h3 (by omega)
  have e : (a * b).toInt = a.toInt * b.toInt := by
    rw [Int32.toInt_mul]; exact Int.bmod_eq_of_le (by omega) (by omega)
  rw [e]; exact ⟨p1, p2⟩
theorem i32_div {a b : Int32} {c : Int} (hc : b.toInt = c) (h0 : 0 < c) (h1 : 0 ≤ a.toInt) : (a / b).toInt = a.toInt / c := by
  have r := i32_rng a
  rw [Int32.toInt_div, hc, Int.tdiv_eq_ediv_of_nonneg h1]
  have p1 : 0 ≤ a.toInt / c := Int.ediv_nonneg h1 (by omega)
  have p2 : a.toInt / c ≤ a.toInt := Int.ediv_le_self _ h1
  exact Int.bmod_eq_of_le (by omega) (by omega)
theorem i32_rem {a b : Int32} {c : Int} (hc : b.toInt = c) (h0 : 0 < c) (h1 : 0 ≤ a.toInt) : (a - a / b * b).toInt = a.toInt % c := by
  have r := i32_rng a
  have e1 := i32_div hc h0 h1
  have p1 : 0 ≤ a.toInt / c := Int.ediv_nonneg h1 (by omega)
  have p2 : a.toInt / c * c ≤ a.toInt := Int.ediv_mul_le _ (by omega)
  have p3 : 0 ≤ a.toInt / c * c := Int.mul_nonneg p1 (by omega)
  have e2 : (a / b * b).toInt = a.toInt / c * c := by
    rw [i32_mulR hc (by rw [e1]; omega) (by rw [e1]; omega), e1]
  rw [i32_sub (by rw [e2]; omega) (by rw [e2]; omega), e2]
  have := Int.emod_def a.toInt c
  rw [this, Int.mul_comm]
theorem bv_nn {x : BitVec 32} (h : 0 ≤ x.toInt) : x.msb = false ∧ x.toInt = (x.toNat : Int) := by
  have hx := x.isLt
  cases hm : x.msb with
  | false => exact ⟨rfl, BitVec.toInt_eq_toNat_of_msb hm⟩
  | true => rw [BitVec.toInt_eq_msb_cond, hm] at h; simp at h; omega
theorem i32_andR {a m : Int32} (h : 0 ≤ m.toInt) : 0 ≤ (a &&& m).toInt ∧ (a &&& m).toInt ≤ m.toInt := by
  obtain ⟨h1, h2⟩ := bv_nn (x := m.toBitVec) h
  have e : (a &&& m).toInt = ((a.toBitVec &&& m.toBitVec).toNat : Int) := BitVec.toInt_eq_toNat_of_msb (x := a.toBitVec &&& m.toBitVec) (by rw [BitVec.msb_and, h1, Bool.and_false])
  have e2 : m.toInt = (m.toBitVec.toNat : Int) := h2
  have l : (a.toBitVec &&& m.toBitVec).toNat ≤ m.toBitVec.toNat := by rw [BitVec.toNat_and]; exact Nat.and_le_right
  omega
theorem i32_and_comm (a m : Int32) : a &&& m = m &&& a := Int32.toBitVec_inj.mp (BitVec.and_comm _ _)
theorem i32_andL {a m : Int32} (h : 0 ≤ a.toInt) : 0 ≤ (a &&& m).toInt ∧ (a &&& m).toInt ≤ a.toInt := by
  rw [i32_and_comm]; exact i32_andR h
theorem i32_ushr {a : Int32} {k : UInt32} (c : Nat) (hk : k.toNat % 32 = c) (h1 : 1 ≤ c) : 0 ≤ (UInt32.toInt32 (Int32.toUInt32 a >>> k)).toInt ∧ (UInt32.toInt32 (Int32.toUInt32 a >>> k)).toInt ≤ 2 ^ (32 - c) - 1 := by
  have hc : c < 32 := by omega
  have hl : (Int32.toUInt32 a >>> k).toNat < 2 ^ (32 - c) := by
    rw [UInt32.toNat_shiftRight, hk, Nat.shiftRight_eq_div_pow]
    have := (Int32.toUInt32 a).toNat_lt
    refine Nat.div_lt_of_lt_mul ?_
    rw [← Nat.pow_add]
    have : c + (32 - c) = 32 := by omega
    rw [this]; assumption
  have hp : 2 ^ (32 - c) ≤ 2 ^ 31 := Nat.pow_le_pow_right (by decide) (by omega)
  have e : (UInt32.toInt32 (Int32.toUInt32 a >>> k)).toInt = ((Int32.toUInt32 a >>> k).toNat : Int) := by
    refine BitVec.toInt_eq_toNat_of_lt (x := (Int32.toUInt32 a >>> k).toBitVec) ?_
    show 2 * (Int32.toUInt32 a >>> k).toNat < 2 ^ 32
    omega
  rw [e]
  refine ⟨by omega, ?_⟩
  have : ((Int32.toUInt32 a >>> k).toNat : Int) < ((2 ^ (32 - c) : Nat) : Int) := by exact_mod_cast hl
  have e3 : ((2 ^ (32 - c) : Nat) : Int) = 2 ^ (32 - c) := by push_cast; rfl
  omega
theorem i32_shl1 {x : Int32} (h0 : 0 ≤ x.toInt) (h1 : x.toInt ≤ 12) : ((1 : Int32) <<< (x &&& 31)).toInt = 2 ^ x.toInt.toNat := by
  have key : ∀ k : Nat, k < 13 → ∀ y : Int32, y.toInt = (k : Int) → ((1 : Int32) <<< (y &&& 31)).toInt = 2 ^ k := by
    intro k hk y hy
    have : y = Int32.ofInt (k : Int) := by
      apply Int32.toInt_inj.mp; rw [hy, Int32.toInt_ofInt]; have hs : (Int32.size : Int) = 4294967296 := rfl
      exact (Int.bmod_eq_of_le (by omega) (by omega)).symm
    subst this
    clear hy h0 h1
    revert k
    decide
  have := key x.toInt.toNat (by omega) x (by omega)
  exact this
theorem i32_shlB {x : Int32} (N : Nat) (h0 : 0 ≤ x.toInt) (h1 : x.toInt ≤ (N : Int)) (h2 : N ≤ 12) : 1 ≤ ((1 : Int32) <<< (x &&& 31)).toInt ∧ ((1 : Int32) <<< (x &&& 31)).toInt ≤ ((2 ^ N : Nat) : Int) := by
  rw [i32_shl1 h0 (by omega)]
  have hp : 2 ^ x.toInt.toNat ≤ 2 ^ N := Nat.pow_le_pow_right (by decide) (by omega)
  have h1 : 1 ≤ 2 ^ x.toInt.toNat := Nat.one_le_two_pow
  have e : ((2 ^ x.toInt.toNat : Nat) : Int) = 2 ^ x.toInt.toNat := by push_cast; rfl
  constructor
  · omega
  · omega
theorem i32_sar {a k : Int32} (h : 0 ≤ a.toInt) : 0 ≤ (a >>> k).toInt ∧ (a >>> k).toInt ≤ a.toInt := by
  have e : (a >>> k).toInt = a.toInt >>> (k.toBitVec.smod 32#32).toNat := by
    show (BitVec.sshiftRight' a.toBitVec (k.toBitVec.smod 32#32)).toInt = _
    rw [BitVec.sshiftRight_eq', BitVec.toInt_sshiftRight]; rfl
  rw [e, Int.shiftRight_eq_div_pow]
  have p : (0 : Int) < ((2 ^ (k.toBitVec.smod 32#32).toNat : Nat) : Int) := by exact_mod_cast Nat.two_pow_pos _
  exact ⟨Int.ediv_nonneg h (by omega), Int.ediv_le_self _ h⟩
theorem i32_orB {a b : Int32} (n : Nat) (N : Int) (hn : n ≤ 31) (hN : N = ((2 ^ n : Nat) : Int) - 1) (h1 : 0 ≤ a.toInt) (h2 : a.toInt ≤ N) (h3 : 0 ≤ b.toInt) (h4 : b.toInt ≤ N) : 0 ≤ (a ||| b).toInt ∧ (a ||| b).toInt ≤ N := by
  obtain ⟨a1, a2⟩ := bv_nn (x := a.toBitVec) h1
  obtain ⟨b1, b2⟩ := bv_nn (x := b.toBitVec) h3
  have e : (a ||| b).toInt = ((a.toBitVec ||| b.toBitVec).toNat : Int) := BitVec.toInt_eq_toNat_of_msb (x := a.toBitVec ||| b.toBitVec) (by rw [BitVec.msb_or, a1, b1]; rfl)
  have a3 : a.toInt = (a.toBitVec.toNat : Int) := a2
  have b3 : b.toInt = (b.toBitVec.toNat : Int) := b2
  have l : (a.toBitVec ||| b.toBitVec).toNat < 2 ^ n := by rw [BitVec.toNat_or]; exact Nat.or_lt_two_pow (by omega) (by omega)
  omega
theorem i32_xorB {a b : Int32} (n : Nat) (N : Int) (hn : n ≤ 31) (hN : N = ((2 ^ n : Nat) : Int) - 1) (h1 : 0 ≤ a.toInt) (h2 : a.toInt ≤ N) (h3 : 0 ≤ b.toInt) (h4 : b.toInt ≤ N) : 0 ≤ (a ^^^ b).toInt ∧ (a ^^^ b).toInt ≤ N := by
  obtain ⟨a1, a2⟩ := bv_nn (x := a.toBitVec) h1
  obtain ⟨b1, b2⟩ := bv_nn (x := b.toBitVec) h3
  have e : (a ^^^ b).toInt = ((a.toBitVec ^^^ b.toBitVec).toNat : Int) := BitVec.toInt_eq_toNat_of_msb (x := a.toBitVec ^^^ b.toBitVec) (by rw [BitVec.msb_xor, a1, b1]; rfl)
  have a3 : a.toInt = (a.toBitVec.toNat : Int) := a2
  have b3 : b.toInt = (b.toBitVec.toNat : Int) := b2
  have l : (a.toBitVec ^^^ b.toBitVec).toNat < 2 ^ n := by rw [BitVec.toNat_xor]; exact Nat.xor_lt_two_pow (by omega) (by omega)
  omega
theorem i32_narb {v : Int32} (h0 : 0 ≤ v.toInt) (h1 : v.toInt ≤ 1) : (vp_nar .boolean v).toInt = v.toInt := by
  rcases i32_bit h0 h1 with rfl | rfl <;> decide
theorem i32_shlb {a x : Int32} (N : Nat) (ha : 0 ≤ a.toInt) (hb : a.toInt ≤ 1) (h0 : 0 ≤ x.toInt) (h1 : x.toInt ≤ (N : Int)) (h2 : N ≤ 12) : 0 ≤ (a <<< (x &&& 31)).toInt ∧ (a <<< (x &&& 31)).toInt ≤ ((2 ^ N : Nat) : Int) := by
  rcases i32_bit ha hb with rfl | rfl
  · have : (0 : Int32) <<< (x &&& 31) = 0 := Int32.toBitVec_inj.mp (by show BitVec.shiftLeft _ _ = _; exact BitVec.zero_shiftLeft _)
    rw [this]; exact ⟨by decide, Int.natCast_nonneg _⟩
  · have := i32_shlB (x := x) N h0 h1 h2; omega
theorem i32_mulS {a b : Int32} (A B : Int) (h1 : -A ≤ a.toInt) (h2 : a.toInt ≤ A) (h3 : -B ≤ b.toInt) (h4 : b.toInt ≤ B) (h : A * B ≤ 2147483647) : -(A * B) ≤ (a * b).toInt ∧ (a * b).toInt ≤ A * B := by
  have p : (a.toInt * b.toInt).natAbs ≤ (A * B).natAbs := by
    rw [Int.natAbs_mul, Int.natAbs_mul]; exact Nat.mul_le_mul (by omega) (by omega)
  have q : 0 ≤ A * B := Int.mul_nonneg (by omega) (by omega)
  have e : (a * b).toInt = a.toInt * b.toInt := by
    rw [Int32.toInt_mul]; exact Int.bmod_eq_of_le (by omega) (by omega)
  rw [e]; constructor <;> omega
