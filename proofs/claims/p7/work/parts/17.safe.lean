section
noncomputable def tabI (i : Nat) : Int32 := match i with | 2 => 1 | 3 => 1 | _ => 0
/-- a new table: its block as the constructor leaves it -/
noncomputable def nT (σ : S2) (b : Nat) : S2 := (fun k => if k < 182 + 6 * b then σ.1 k else if k = 182 + 6 * b then tabI else if k < 182 + 6 * b + 6 then (fun _ => 0) else σ.1 k, σ.2)
noncomputable def tabRest (τ : Nat) (σ : S2) (x2 : Int32) : Option (Int32 × Nat × S2) := bs (fX8_takeAll τ (τ + 1) 0 σ) (fun r1 σ2 => bs (fX8_seatAll τ (τ + 1) σ2 x2) (fun r4 σ5 => ck 10 (σ5.1 0 6) (if Int32.toNatClampNeg (σ5.1 0 6) = τ then nm (ux_wI σ5 0 6 ((σ5.1 0 6) + 1)) (fun σ7 => some ((σ7.1 0 6) - 1, 1, σ7)) else none)))
noncomputable def tabNew (τ : Nat) (σ : S2) (x2 : Int32) : Option (Int32 × Nat × S2) := tabRest τ (nT σ (τ + 1)) x2
noncomputable def fX11_table_0 (τ : Nat)  (σ : S2) (x1 : Int32) (x2 : Int32) : Option (Int32 × Nat × S2) := nm ((1 <<< ((σ.1 7 5) &&& 31)) - 1) (fun v1 => if x1 = 0 then some ((-1), 0, σ) else if (x1 &&& (v1 ^^^ (-1))) = 0 then if (σ.1 0 6) < 10 then bs (fX8_takeMembers τ 0 σ x1) (fun r2 σ3 => bs (fX8_takeLaw τ 0 2 80 σ3 (σ3.1 1 1)) (fun r5 σ6 => nm (ux_wI σ6 1 1 0) (fun σ8 => bs (fX3_workOut τ σ8) (fun r9 σ10 => if r9 = (-1) then tabNew τ σ10 x2 else some ((-100) - r9, 0, σ10))))) else some ((-3), 0, σ) else some ((-1), 0, σ))
noncomputable def fX11_table (τ : Nat) (σ : S2) (a1 : Int32) (a2 : Int32) : Option (Int32 × Nat × S2) := fX11_table_0 τ σ a1 a2
end
section
/-! safety of the decompiled functions: an answer comes, and the places stay within their bounds -/
noncomputable def Ok {α : Type} (Q : α → Prop) (o : Option α) : Prop := ∃ z, o = some z ∧ Q z
section OK
variable {α β : Type} {Q : β → Prop}
theorem ok_some {z : β} (h : Q z) : Ok Q (some z) := ⟨z, rfl, h⟩
theorem ok_nm {a : α} {K : α → Option β} (h : ∀ v, v = a → Ok Q (K v)) : Ok Q (nm a K) := h a rfl
theorem ok_nmI {a : Int32} {K : Int32 → Option β} (h : ∀ v : Int32, v = a → v.toInt = a.toInt → Ok Q (K v)) : Ok Q (nm a K) := h a rfl rfl
theorem i32_neg {i : Int32} (h0 : 0 ≤ i.toInt) : ¬ i < 0 := fun q => by
  have := Int32.lt_iff_toInt_lt.mp q
  have e : (0 : Int32).toInt = 0 := rfl
  omega
theorem i32_nat {i : Int32} (h0 : 0 ≤ i.toInt) : (i.toNatClampNeg : Int) = i.toInt := by
  have : i.toNatClampNeg = i.toInt.toNat := rfl
  rw [this]; omega
theorem ok_ck {n : Nat} {i : Int32} {K : Option β} (h0 : 0 ≤ i.toInt) (h1 : i.toInt < (n : Int)) (h : Ok Q K) : Ok Q (ck n i K) := by
  have e := i32_nat h0
  unfold ck
  rw [if_neg (fun q => q.elim (i32_neg h0) (fun q => by omega))]
  exact h
theorem ok_dz {y : Int32} {K : Option β} (h0 : y.toInt ≠ 0) (h : Ok Q K) : Ok Q (dz y K) := by
  unfold dz
  rw [if_neg (fun q => h0 (by rw [q]; rfl))]
  exact h
theorem ok_bi {P : α → Prop} {o : Option α} {K : α → Option β} (h : Ok P o) (k : ∀ r, P r → Ok Q (K r)) : Ok Q (bi o K) := by
  obtain ⟨z, rfl, hz⟩ := h
  exact k z hz
theorem ok_bs {P : α × S2 → Prop} {o : Option (α × S2)} {K : α → S2 → Option β} (h : Ok P o) (k : ∀ r σ, P (r, σ) → Ok Q (K r σ)) : Ok Q (bs o K) := by
  obtain ⟨z, rfl, hz⟩ := h
  exact k z.1 z.2 hz
theorem ok_le {a b : Int32} {A B : Option β} (h1 : a.toInt ≤ b.toInt → Ok Q A) (h2 : b.toInt < a.toInt → Ok Q B) : Ok Q (if a ≤ b then A else B) := by
  by_cases h : a ≤ b
  · rw [if_pos h]; exact h1 (Int32.le_iff_toInt_le.mp h)
  · rw [if_neg h]; exact h2 (Int.not_le.mp (fun q => h (Int32.le_iff_toInt_le.mpr q)))
theorem ok_lt {a b : Int32} {A B : Option β} (h1 : a.toInt < b.toInt → Ok Q A) (h2 : b.toInt ≤ a.toInt → Ok Q B) : Ok Q (if a < b then A else B) := by
  by_cases h : a < b
  · rw [if_pos h]; exact h1 (Int32.lt_iff_toInt_lt.mp h)
  · rw [if_neg h]; exact h2 (Int.not_lt.mp (fun q => h (Int32.lt_iff_toInt_lt.mpr q)))
theorem ok_eq {a b : Int32} {A B : Option β} (h1 : a.toInt = b.toInt → Ok Q A) (h2 : a.toInt ≠ b.toInt → Ok Q B) : Ok Q (if a = b then A else B) := by
  by_cases h : a = b
  · rw [if_pos h]; exact h1 (by rw [h])
  · rw [if_neg h]; exact h2 (fun q => h (Int32.toInt_inj.mp q))
theorem ok_mono {P : β → Prop} {o : Option β} (h : Ok P o) (k : ∀ z, P z → Q z) : Ok Q o := by
  obtain ⟨z, e, hz⟩ := h
  exact ⟨z, e, k z hz⟩
theorem i32_bit {v : Int32} (h0 : 0 ≤ v.toInt) (h1 : v.toInt ≤ 1) : v = 0 ∨ v = 1 := by
  by_cases h : v.toInt = 0
  · exact Or.inl (Int32.toInt_inj.mp h)
  · exact Or.inr (Int32.toInt_inj.mp (by have e : (1 : Int32).toInt = 1 := rfl; omega))
theorem ok_zb {v : Int32} {K : Option β} (h0 : 0 ≤ v.toInt) (h1 : v.toInt ≤ 1) (h : Ok Q K) : Ok Q (zb v K) := by
  unfold zb
  rcases i32_bit h0 h1 with rfl | rfl
  · rw [if_pos (by decide)]; exact h
  · rw [if_pos (by decide)]; exact h
theorem ok_zf {v : Int32} {K : Option β} (h0 : 0 ≤ v.toInt) (h1 : v.toInt ≤ 1) (h : Ok Q K) : Ok Q (zf v K) := by
  unfold zf
  rcases i32_bit h0 h1 with rfl | rfl
  · rw [if_pos (by decide)]; exact h
  · rw [if_pos (by decide)]; exact h
end OK
theorem i32_rng (a : Int32) : -2147483648 ≤ a.toInt ∧ a.toInt ≤ 2147483647 := ⟨Int32.le_toInt a, by have := Int32.toInt_lt a; omega⟩
theorem i32_add {a b : Int32} (h1 : -2147483648 ≤ a.toInt + b.toInt) (h2 : a.toInt + b.toInt ≤ 2147483647) : (a + b).toInt = a.toInt + b.toInt := by
  rw [Int32.toInt_add]; exact Int.bmod_eq_of_le (by omega) (by omega)
theorem i32_sub {a b : Int32} (h1 : -2147483648 ≤ a.toInt - b.toInt) (h2 : a.toInt - b.toInt ≤ 2147483647) : (a - b).toInt = a.toInt - b.toInt := by
  rw [Int32.toInt_sub]; exact Int.bmod_eq_of_le (by omega) (by omega)
theorem i32_neg' {a : Int32} (h1 : -2147483647 ≤ a.toInt) : (-a).toInt = -a.toInt := by
  have := i32_rng a
  rw [Int32.toInt_neg]; exact Int.bmod_eq_of_le (by omega) (by omega)
theorem i32_mulL {a b : Int32} {c : Int} (hc : a.toInt = c) (h1 : -2147483648 ≤ c * b.toInt) (h2 : c * b.toInt ≤ 2147483647) : (a * b).toInt = c * b.toInt := by
  rw [Int32.toInt_mul, hc]; exact Int.bmod_eq_of_le (by omega) (by omega)
theorem i32_mulR {a b : Int32} {c : Int} (hc : b.toInt = c) (h1 : -2147483648 ≤ a.toInt * c) (h2 : a.toInt * c ≤ 2147483647) : (a * b).toInt = a.toInt * c := by
  rw [Int32.toInt_mul, hc]; exact Int.bmod_eq_of_le (by omega) (by omega)
theorem i32_mulB {a b : Int32} (A B : Int) (h1 : 0 ≤ a.toInt) (h2 : a.toInt ≤ A) (h3 : 0 ≤ b.toInt) (h4 : b.toInt ≤ B) (h : A * B ≤ 2147483647) : 0 ≤ (a * b).toInt ∧ (a * b).toInt ≤ A * B := by
  have p1 : 0 ≤ a.toInt * b.toInt := Int.mul_nonneg h1 h3
  have p2 : a.toInt * b.toInt ≤ A * B := Int.mul_le_mul h2 h4 h3 (by omega)
  have e : (a * b).toInt = a.toInt * b.toInt := by
    rw [Int32.toInt_mul]; exact Int.bmod_eq_of_le (by omega) (by omega)
  rw [e]; exact ⟨p1, p2⟩
theorem i32_div {a b : Int32} {c : Int} (hc : b.toInt = c) (h0 : 0 < c) (h1 : 0 ≤ a.toInt) : (a / b).toInt = a.toInt / c := by
  have r := i32_rng a
  rw [Int32.toInt_div, hc, Int.tdiv_eq_ediv_of_nonneg h1]
  have p1 : 0 ≤ a.toInt / c := Int.ediv_nonneg h1 (by omega)
  have p2 : a.toInt / c ≤ a.toInt := Int.ediv_le_self _ h1
  exact Int.bmod_eq_of_le (by omega) (by omega)
theorem i32_rem {a b : Int32} {c : Int} (hc : b.toInt = c) (h0 : 0 < c) (h1 : 0 ≤ a.toInt) : (a - a / b * b).toInt = a.toInt % c := by
  have r := i32_rng a
  have e1 := i32_div hc h0 h1
  have p1 : 0 ≤ a.toInt / c := Int.ediv_nonneg h1 (by omega)
  have p2 : a.toInt / c * c ≤ a.toInt := Int.ediv_mul_le _ (by omega)
  have p3 : 0 ≤ a.toInt / c * c := Int.mul_nonneg p1 (by omega)
  have e2 : (a / b * b).toInt = a.toInt / c * c := by
    rw [i32_mulR hc (by rw [e1]; omega) (by rw [e1]; omega), e1]
  rw [i32_sub (by rw [e2]; omega) (by rw [e2]; omega), e2]
  have := Int.emod_def a.toInt c
  rw [this, Int.mul_comm]
theorem bv_nn {x : BitVec 32} (h : 0 ≤ x.toInt) : x.msb = false ∧ x.toInt = (x.toNat : Int) := by
  have hx := x.isLt
  cases hm : x.msb with
  | false => exact ⟨rfl, BitVec.toInt_eq_toNat_of_msb hm⟩
  | true => rw [BitVec.toInt_eq_msb_cond, hm] at h; simp at h; omega
theorem i32_andR {a m : Int32} (h : 0 ≤ m.toInt) : 0 ≤ (a &&& m).toInt ∧ (a &&& m).toInt ≤ m.toInt := by
  obtain ⟨h1, h2⟩ := bv_nn (x := m.toBitVec) h
  have e : (a &&& m).toInt = ((a.toBitVec &&& m.toBitVec).toNat : Int) := BitVec.toInt_eq_toNat_of_msb (x := a.toBitVec &&& m.toBitVec) (by rw [BitVec.msb_and, h1, Bool.and_false])
  have e2 : m.toInt = (m.toBitVec.toNat : Int) := h2
  have l : (a.toBitVec &&& m.toBitVec).toNat ≤ m.toBitVec.toNat := by rw [BitVec.toNat_and]; exact Nat.and_le_right
  omega
theorem i32_and_comm (a m : Int32) : a &&& m = m &&& a := Int32.toBitVec_inj.mp (BitVec.and_comm _ _)
theorem i32_andL {a m : Int32} (h : 0 ≤ a.toInt) : 0 ≤ (a &&& m).toInt ∧ (a &&& m).toInt ≤ a.toInt := by
  rw [i32_and_comm]; exact i32_andR h
theorem i32_ushr {a : Int32} {k : UInt32} (c : Nat) (hk : k.toNat % 32 = c) (h1 : 1 ≤ c) : 0 ≤ (UInt32.toInt32 (Int32.toUInt32 a >>> k)).toInt ∧ (UInt32.toInt32 (Int32.toUInt32 a >>> k)).toInt ≤ 2 ^ (32 - c) - 1 := by
  have hc : c < 32 := by omega
  have hl : (Int32.toUInt32 a >>> k).toNat < 2 ^ (32 - c) := by
    rw [UInt32.toNat_shiftRight, hk, Nat.shiftRight_eq_div_pow]
    have := (Int32.toUInt32 a).toNat_lt
    refine Nat.div_lt_of_lt_mul ?_
    rw [← Nat.pow_add]
    have : c + (32 - c) = 32 := by omega
    rw [this]; assumption
  have hp : 2 ^ (32 - c) ≤ 2 ^ 31 := Nat.pow_le_pow_right (by decide) (by omega)
  have e : (UInt32.toInt32 (Int32.toUInt32 a >>> k)).toInt = ((Int32.toUInt32 a >>> k).toNat : Int) := by
    refine BitVec.toInt_eq_toNat_of_lt (x := (Int32.toUInt32 a >>> k).toBitVec) ?_
    show 2 * (Int32.toUInt32 a >>> k).toNat < 2 ^ 32
    omega
  rw [e]
  refine ⟨by omega, ?_⟩
  have : ((Int32.toUInt32 a >>> k).toNat : Int) < ((2 ^ (32 - c) : Nat) : Int) := by exact_mod_cast hl
  have e3 : ((2 ^ (32 - c) : Nat) : Int) = 2 ^ (32 - c) := by push_cast; rfl
  omega
theorem i32_shl1 {x : Int32} (h0 : 0 ≤ x.toInt) (h1 : x.toInt ≤ 12) : ((1 : Int32) <<< (x &&& 31)).toInt = 2 ^ x.toInt.toNat := by
  have key : ∀ k : Nat, k < 13 → ∀ y : Int32, y.toInt = (k : Int) → ((1 : Int32) <<< (y &&& 31)).toInt = 2 ^ k := by
    intro k hk y hy
    have : y = Int32.ofInt (k : Int) := by
      apply Int32.toInt_inj.mp; rw [hy, Int32.toInt_ofInt]; have hs : (Int32.size : Int) = 4294967296 := rfl
      exact (Int.bmod_eq_of_le (by omega) (by omega)).symm
    subst this
    clear hy h0 h1
    revert k
    decide
  have := key x.toInt.toNat (by omega) x (by omega)
  exact this
theorem i32_shlB {x : Int32} (N : Nat) (h0 : 0 ≤ x.toInt) (h1 : x.toInt ≤ (N : Int)) (h2 : N ≤ 12) : 1 ≤ ((1 : Int32) <<< (x &&& 31)).toInt ∧ ((1 : Int32) <<< (x &&& 31)).toInt ≤ ((2 ^ N : Nat) : Int) := by
  rw [i32_shl1 h0 (by omega)]
  have hp : 2 ^ x.toInt.toNat ≤ 2 ^ N := Nat.pow_le_pow_right (by decide) (by omega)
  have h1 : 1 ≤ 2 ^ x.toInt.toNat := Nat.one_le_two_pow
  have e : ((2 ^ x.toInt.toNat : Nat) : Int) = 2 ^ x.toInt.toNat := by push_cast; rfl
  constructor
  · omega
  · omega
theorem i32_sar {a k : Int32} (h : 0 ≤ a.toInt) : 0 ≤ (a >>> k).toInt ∧ (a >>> k).toInt ≤ a.toInt := by
  have e : (a >>> k).toInt = a.toInt >>> (k.toBitVec.smod 32#32).toNat := by
    show (BitVec.sshiftRight' a.toBitVec (k.toBitVec.smod 32#32)).toInt = _
    rw [BitVec.sshiftRight_eq', BitVec.toInt_sshiftRight]; rfl
  rw [e, Int.shiftRight_eq_div_pow]
  have p : (0 : Int) < ((2 ^ (k.toBitVec.smod 32#32).toNat : Nat) : Int) := by exact_mod_cast Nat.two_pow_pos _
  exact ⟨Int.ediv_nonneg h (by omega), Int.ediv_le_self _ h⟩
theorem i32_orB {a b : Int32} (n : Nat) (N : Int) (hn : n ≤ 31) (hN : N = ((2 ^ n : Nat) : Int) - 1) (h1 : 0 ≤ a.toInt) (h2 : a.toInt ≤ N) (h3 : 0 ≤ b.toInt) (h4 : b.toInt ≤ N) : 0 ≤ (a ||| b).toInt ∧ (a ||| b).toInt ≤ N := by
  obtain ⟨a1, a2⟩ := bv_nn (x := a.toBitVec) h1
  obtain ⟨b1, b2⟩ := bv_nn (x := b.toBitVec) h3
  have e : (a ||| b).toInt = ((a.toBitVec ||| b.toBitVec).toNat : Int) := BitVec.toInt_eq_toNat_of_msb (x := a.toBitVec ||| b.toBitVec) (by rw [BitVec.msb_or, a1, b1]; rfl)
  have a3 : a.toInt = (a.toBitVec.toNat : Int) := a2
  have b3 : b.toInt = (b.toBitVec.toNat : Int) := b2
  have l : (a.toBitVec ||| b.toBitVec).toNat < 2 ^ n := by rw [BitVec.toNat_or]; exact Nat.or_lt_two_pow (by omega) (by omega)
  omega
theorem i32_xorB {a b : Int32} (n : Nat) (N : Int) (hn : n ≤ 31) (hN : N = ((2 ^ n : Nat) : Int) - 1) (h1 : 0 ≤ a.toInt) (h2 : a.toInt ≤ N) (h3 : 0 ≤ b.toInt) (h4 : b.toInt ≤ N) : 0 ≤ (a ^^^ b).toInt ∧ (a ^^^ b).toInt ≤ N := by
  obtain ⟨a1, a2⟩ := bv_nn (x := a.toBitVec) h1
  obtain ⟨b1, b2⟩ := bv_nn (x := b.toBitVec) h3
  have e : (a ^^^ b).toInt = ((a.toBitVec ^^^ b.toBitVec).toNat : Int) := BitVec.toInt_eq_toNat_of_msb (x := a.toBitVec ^^^ b.toBitVec) (by rw [BitVec.msb_xor, a1, b1]; rfl)
  have a3 : a.toInt = (a.toBitVec.toNat : Int) := a2
  have b3 : b.toInt = (b.toBitVec.toNat : Int) := b2
  have l : (a.toBitVec ^^^ b.toBitVec).toNat < 2 ^ n := by rw [BitVec.toNat_xor]; exact Nat.xor_lt_two_pow (by omega) (by omega)
  omega
theorem i32_narb {v : Int32} (h0 : 0 ≤ v.toInt) (h1 : v.toInt ≤ 1) : (vp_nar .boolean v).toInt = v.toInt := by
  rcases i32_bit h0 h1 with rfl | rfl <;> decide
theorem i32_shlb {a x : Int32} (N : Nat) (ha : 0 ≤ a.toInt) (hb : a.toInt ≤ 1) (h0 : 0 ≤ x.toInt) (h1 : x.toInt ≤ (N : Int)) (h2 : N ≤ 12) : 0 ≤ (a <<< (x &&& 31)).toInt ∧ (a <<< (x &&& 31)).toInt ≤ ((2 ^ N : Nat) : Int) := by
  rcases i32_bit ha hb with rfl | rfl
  · have : (0 : Int32) <<< (x &&& 31) = 0 := Int32.toBitVec_inj.mp (by show BitVec.shiftLeft _ _ = _; exact BitVec.zero_shiftLeft _)
    rw [this]; exact ⟨by decide, Int.natCast_nonneg _⟩
  · have := i32_shlB (x := x) N h0 h1 h2; omega
theorem i32_mulS {a b : Int32} (A B : Int) (h1 : -A ≤ a.toInt) (h2 : a.toInt ≤ A) (h3 : -B ≤ b.toInt) (h4 : b.toInt ≤ B) (h : A * B ≤ 2147483647) : -(A * B) ≤ (a * b).toInt ∧ (a * b).toInt ≤ A * B := by
  have p : (a.toInt * b.toInt).natAbs ≤ (A * B).natAbs := by
    rw [Int.natAbs_mul, Int.natAbs_mul]; exact Nat.mul_le_mul (by omega) (by omega)
  have q : 0 ≤ A * B := Int.mul_nonneg (by omega) (by omega)
  have e : (a * b).toInt = a.toInt * b.toInt := by
    rw [Int32.toInt_mul]; exact Int.bmod_eq_of_le (by omega) (by omega)
  rw [e]; constructor <;> omega
end
section
noncomputable def loM (k i : Nat) : Int := match k with
  | 0 => (match i with | 0 => 0 | 3 => 0 | 9 => 0 | 22 => 0 | 29 => (-2147483648) | 30 => 0 | 32 => 0 | 34 => 0 | 36 => (-1) | 38 => 0 | 44 => 0 | 45 => 0 | 46 => 0 | 47 => 0 | 48 => (-2147483648) | 49 => (-2147483648) | 50 => (-2147483648) | 51 => 0 | 53 => 0 | 55 => 0 | _ => (-2147483648))
  | 1 => 0
  | 2 => 0
  | 3 => 0
  | 4 => 0
  | 5 => 0
  | 6 => (-1)
  | 7 => 0
  | 8 => 0
  | 10 => 0
  | 11 => 0
  | 12 => (-49)
  | 13 => 0
  | 14 => 0
  | 15 => 0
  | 16 => 0
  | 18 => (-1)
  | 19 => 0
  | 22 => (-2)
  | 24 => 0
  | 26 => 0
  | 27 => 0
  | 29 => 0
  | 30 => (-1)
  | 31 => (-1)
  | 32 => 0
  | 33 => 0
  | 34 => 0
  | 35 => 0
  | 36 => 0
  | 38 => 0
  | 39 => 0
  | _ => (-2147483648)
noncomputable def hiM (k i : Nat) : Int := match k with
  | 0 => (match i with | 0 => 40 | 3 => 12 | 9 => 10 | 22 => 80 | 29 => 2147483647 | 30 => 5 | 32 => 5 | 34 => 6 | 36 => 2147483647 | 38 => 1000 | 44 => 10 | 45 => 80 | 46 => 4 | 47 => 1 | 48 => 2147483647 | 49 => 2147483647 | 50 => 2147483647 | 51 => 16 | 53 => 12 | 55 => 4 | _ => 2147483647)
  | 1 => 6
  | 2 => 255
  | 3 => 5
  | 4 => 8
  | 5 => 6
  | 6 => 9
  | 7 => 1
  | 8 => 4095
  | 10 => 4
  | 11 => 4
  | 12 => 207
  | 13 => 80
  | 14 => 255
  | 15 => 16
  | 16 => 5
  | 18 => 11
  | 19 => 255
  | 22 => 11
  | 24 => 11
  | 26 => 11
  | 27 => 4
  | 29 => 71
  | 30 => 11
  | 31 => 4
  | 32 => 60
  | 33 => 0
  | 34 => 255
  | 35 => 11
  | 36 => 11
  | 38 => 4095
  | 39 => 4
  | _ => 2147483647
noncomputable def BvM (σ : S2) : Prop := ∀ k i, loM k i ≤ (σ.1 k i).toInt ∧ (σ.1 k i).toInt ≤ hiM k i
noncomputable def FaM (σ : S2) (t : Nat) : Prop := ((0 ≤ (σ.1 8 t).toInt ∧ (σ.1 8 t).toInt < 2 ^ (σ.1 0 3).toInt.toNat) ∧ ∀ k : Nat, k < 12 → (σ.1 8 t).toInt.toNat.testBit k = true → 1 ≤ (σ.1 15 (12 * t + k)).toInt) ∧ (∀ k : Nat, k < 12 → (σ.1 8 t).toInt.toNat.testBit k = true → ∃ p, p < 1000 ∧ (σ.1 18 (1000 * t + p)).toInt = (k : Int)) ∧ ((σ.1 8 t).toInt = 0 ∨ ∀ p, p < 1000 → (σ.1 18 (1000 * t + p)).toInt = -1 ∨ (0 ≤ (σ.1 18 (1000 * t + p)).toInt ∧ (σ.1 8 t).toInt.toNat.testBit (σ.1 18 (1000 * t + p)).toInt.toNat = true))
noncomputable def CoM (σ : S2) (t : Nat) : Prop := (0 ≤ (σ.1 8 t).toInt ∧ (σ.1 8 t).toInt < 2 ^ (σ.1 0 3).toInt.toNat) ∧ ∀ k : Nat, k < 12 → (σ.1 8 t).toInt.toNat.testBit k = true → 1 ≤ (σ.1 15 (12 * t + k)).toInt
noncomputable def TbM (g : Nat) (σ : S2) : Prop := (∀ k : Nat, (k : Int) < (σ.1 0 3).toInt → 1 ≤ (σ.1 4 k).toInt) ∧ (∀ t : Nat, ((t : Int) < (σ.1 0 9).toInt ∨ (t = 10 ∧ g = 0)) → FaM σ t) ∧ (∀ k : Nat, (σ.1 6 k).toInt < (σ.1 0 9).toInt) ∧ (∀ i : Nat, (σ.1 26 i).toInt < (σ.1 0 3).toInt ∨ (σ.1 26 i).toInt = 0) ∧ ((σ.1 0 9).toInt = 0 ∨ 1 ≤ (σ.1 0 3).toInt)
noncomputable def IvM (g : Nat) (σ : S2) : Prop := BvM σ ∧ TbM g σ
noncomputable def okM (k i : Nat) : Bool := !(k == 4 || k == 8 || k == 15 || k == 18 || k == 6 || k == 26 || (k == 0 && (i == 3 || i == 9)))
theorem ux_wI_ne {σ : S2} {k i : Nat} {x : Int32} {k' i' : Nat} (h : ¬ (k' = k ∧ i' = i)) : (ux_wI σ k i x).1 k' i' = σ.1 k' i' := by
  show (if k' = k then upd (σ.1 k) i x else σ.1 k') i' = _
  by_cases hk : k' = k
  · subst hk
    rw [if_pos rfl]
    show (if i' = i then x else σ.1 k' i') = _
    rw [if_neg (fun q => h ⟨rfl, q⟩)]
  · rw [if_neg hk]
theorem ux_wI_eq {σ : S2} {k i : Nat} {x : Int32} : (ux_wI σ k i x).1 k i = x := by
  show (if k = k then upd (σ.1 k) i x else σ.1 k) i = _
  rw [if_pos rfl]
  show (if i = i then x else σ.1 k i) = _
  rw [if_pos rfl]
/-- the places that FaM reads are the same -/
theorem FaM.of {σ τ : S2} {t : Nat} (h : FaM σ t) (h8 : τ.1 8 t = σ.1 8 t) (h3 : (σ.1 0 3).toInt ≤ (τ.1 0 3).toInt) (h15 : ∀ k, k < 12 → τ.1 15 (12 * t + k) = σ.1 15 (12 * t + k)) (h18 : ∀ p, p < 1000 → τ.1 18 (1000 * t + p) = σ.1 18 (1000 * t + p)) : FaM τ t := by
  obtain ⟨⟨⟨a1, a2⟩, a3⟩, a4, a5⟩ := h
  refine ⟨⟨⟨by rw [h8]; exact a1, ?_⟩, fun k hk hb => ?_⟩, fun k hk hb => ?_, a5.imp (fun e => by rw [h8]; exact e) (fun f p hp => ?_)⟩
  · rw [h8]
    have : (2 : Int) ^ (σ.1 0 3).toInt.toNat ≤ 2 ^ (τ.1 0 3).toInt.toNat := by
      have := Nat.pow_le_pow_right (n := 2) (by decide) (show (σ.1 0 3).toInt.toNat ≤ (τ.1 0 3).toInt.toNat by omega)
      exact_mod_cast this
    omega
  · rw [h15 k hk]; exact a3 k hk (by rw [← h8]; exact hb)
  · obtain ⟨p, hp, e⟩ := a4 k hk (by rw [← h8]; exact hb)
    exact ⟨p, hp, by rw [h18 p hp]; exact e⟩
  · rw [h18 p hp, h8]; exact f p hp
theorem BvM.wI {σ : S2} {k i : Nat} {x : Int32} (h : BvM σ) (h1 : loM k i ≤ x.toInt) (h2 : x.toInt ≤ hiM k i) : BvM (ux_wI σ k i x) := by
  intro k' i'
  by_cases hk : k' = k ∧ i' = i
  · obtain ⟨rfl, rfl⟩ := hk
    rw [ux_wI_eq]; exact ⟨h1, h2⟩
  · rw [ux_wI_ne hk]; exact h k' i'
theorem IvM.wI {g : Nat} {σ : S2} {k i : Nat} {x : Int32} (h : IvM g σ) (hk : okM k i = true) (h1 : loM k i ≤ x.toInt) (h2 : x.toInt ≤ hiM k i) : IvM g (ux_wI σ k i x) := by
  have e4 : ∀ j, (ux_wI σ k i x).1 4 j = σ.1 4 j := fun j => ux_wI_ne (by rintro ⟨rfl, rfl⟩; exact absurd hk (by simp [okM]))
  have e8 : ∀ j, (ux_wI σ k i x).1 8 j = σ.1 8 j := fun j => ux_wI_ne (by rintro ⟨rfl, rfl⟩; exact absurd hk (by simp [okM]))
  have e15 : ∀ j, (ux_wI σ k i x).1 15 j = σ.1 15 j := fun j => ux_wI_ne (by rintro ⟨rfl, rfl⟩; exact absurd hk (by simp [okM]))
  have e18 : ∀ j, (ux_wI σ k i x).1 18 j = σ.1 18 j := fun j => ux_wI_ne (by rintro ⟨rfl, rfl⟩; exact absurd hk (by simp [okM]))
  have e6 : ∀ j, (ux_wI σ k i x).1 6 j = σ.1 6 j := fun j => ux_wI_ne (by rintro ⟨rfl, rfl⟩; exact absurd hk (by simp [okM]))
  have e26 : ∀ j, (ux_wI σ k i x).1 26 j = σ.1 26 j := fun j => ux_wI_ne (by rintro ⟨rfl, rfl⟩; exact absurd hk (by simp [okM]))
  have e03 : (ux_wI σ k i x).1 0 3 = σ.1 0 3 := ux_wI_ne (by rintro ⟨rfl, rfl⟩; exact absurd hk (by decide))
  have e09 : (ux_wI σ k i x).1 0 9 = σ.1 0 9 := ux_wI_ne (by rintro ⟨rfl, rfl⟩; exact absurd hk (by decide))
  refine ⟨h.1.wI h1 h2, fun j hj => ?_, fun t ht => ?_, fun j => ?_, fun j => ?_, ?_⟩
  · rw [e4]; exact h.2.1 j (by rw [e03] at hj; exact hj)
  · exact (h.2.2.1 t (by rw [e09] at ht; exact ht)).of (e8 t) (by rw [e03]; omega) (fun k _ => e15 _) (fun p _ => e18 _)
  · rw [e6, e09]; exact h.2.2.2.1 j
  · rw [e26, e03]; exact h.2.2.2.2.1 j
  · rw [e09, e03]; exact h.2.2.2.2.2
theorem IvM.wL {g : Nat} {σ : S2} {k i : Nat} {x : Int64} (h : IvM g σ) : IvM g (ux_wL σ k i x) := ⟨fun k' i' => h.1 k' i', h.2⟩
theorem IvM.w4 {g : Nat} {σ : S2} {i : Nat} {x : Int32} (h : IvM g σ) (h0 : 1 ≤ x.toInt) (h1 : loM 4 i ≤ x.toInt) (h2 : x.toInt ≤ hiM 4 i) : IvM g (ux_wI σ 4 i x) := by
  refine ⟨h.1.wI h1 h2, fun j hj => ?_, fun t ht => (h.2.2.1 t ht).of rfl (Int.le_refl _) (fun _ _ => rfl) (fun _ _ => rfl), h.2.2.2⟩
  by_cases e : j = i
  · subst e; rw [ux_wI_eq]; exact h0
  · rw [ux_wI_ne (fun q => e q.2)]; exact h.2.1 j hj
theorem IvM.w03 {g : Nat} {σ : S2} {x : Int32} (i : Nat) (h : IvM g σ) (hi : (i : Int) = (σ.1 0 3).toInt) (hs : 1 ≤ (σ.1 4 i).toInt) (hx : x.toInt = (σ.1 0 3).toInt + 1) (h1 : loM 0 3 ≤ x.toInt) (h2 : x.toInt ≤ hiM 0 3) : IvM g (ux_wI σ 0 3 x) := by
  refine ⟨h.1.wI h1 h2, fun j hj => ?_, fun t ht => (h.2.2.1 t ht).of rfl ?_ (fun _ _ => rfl) (fun _ _ => rfl), h.2.2.2.1, fun j => ?_, ?_⟩
  · rw [ux_wI_eq] at hj
    rw [ux_wI_ne (by rintro ⟨q, _⟩; exact absurd q (by decide))]
    by_cases e : j = i
    · subst e; exact hs
    · exact h.2.1 j (by omega)
  · rw [ux_wI_eq]; omega
  · have := h.2.2.2.2.1 j
    rw [ux_wI_eq, ux_wI_ne (by rintro ⟨q, _⟩; exact absurd q (by decide))]; omega
  · have := h.1 0 3
    have e : loM 0 3 = 0 := rfl
    rw [ux_wI_eq]; omega
theorem IvM.w8 {g : Nat} {σ : S2} {i : Nat} {x : Int32} (h : IvM g σ) (hi : (σ.1 0 9).toInt ≤ (i : Int)) (hg : i ≠ 10 ∨ g ≠ 0) (h1 : loM 8 i ≤ x.toInt) (h2 : x.toInt ≤ hiM 8 i) : IvM g (ux_wI σ 8 i x) := by
  refine ⟨h.1.wI h1 h2, h.2.1, fun t ht => ?_, h.2.2.2⟩
  have ht' : (t : Int) < (σ.1 0 9).toInt ∨ (t = 10 ∧ g = 0) := ht
  exact (h.2.2.1 t ht).of (ux_wI_ne (by rintro ⟨_, q⟩; omega)) (Int.le_refl _) (fun _ _ => rfl) (fun _ _ => rfl)
theorem IvM.w15 {g : Nat} {σ : S2} {i : Nat} {x : Int32} (h : IvM g σ) (hi : 12 * (σ.1 0 9).toInt ≤ (i : Int)) (hg : i < 120 ∨ g ≠ 0) (h1 : loM 15 i ≤ x.toInt) (h2 : x.toInt ≤ hiM 15 i) : IvM g (ux_wI σ 15 i x) := by
  refine ⟨h.1.wI h1 h2, h.2.1, fun t ht => ?_, h.2.2.2⟩
  have ht' : (t : Int) < (σ.1 0 9).toInt ∨ (t = 10 ∧ g = 0) := ht
  exact (h.2.2.1 t ht).of rfl (Int.le_refl _) (fun k hk => ux_wI_ne (by rintro ⟨_, q⟩; omega)) (fun _ _ => rfl)
theorem IvM.w18 {g : Nat} {σ : S2} {i : Nat} {x : Int32} (h : IvM g σ) (hi : 1000 * (σ.1 0 9).toInt ≤ (i : Int)) (hg : i < 10000 ∨ g ≠ 0) (h1 : loM 18 i ≤ x.toInt) (h2 : x.toInt ≤ hiM 18 i) : IvM g (ux_wI σ 18 i x) := by
  refine ⟨h.1.wI h1 h2, h.2.1, fun t ht => ?_, h.2.2.2⟩
  have ht' : (t : Int) < (σ.1 0 9).toInt ∨ (t = 10 ∧ g = 0) := ht
  exact (h.2.2.1 t ht).of rfl (Int.le_refl _) (fun _ _ => rfl) (fun p hp => ux_wI_ne (by rintro ⟨_, q⟩; omega))
theorem IvM.w09 {g : Nat} {σ : S2} {x : Int32} (t : Nat) (h : IvM g σ) (ht : (t : Int) = (σ.1 0 9).toInt) (hf : FaM σ t) (hx : x.toInt = (σ.1 0 9).toInt + 1) (hk : 1 ≤ (σ.1 0 3).toInt) (h1 : loM 0 9 ≤ x.toInt) (h2 : x.toInt ≤ hiM 0 9) : IvM g (ux_wI σ 0 9 x) := by
  refine ⟨h.1.wI h1 h2, h.2.1, fun u hu => ?_, fun k => ?_, h.2.2.2.2.1, Or.inr hk⟩
  · rw [ux_wI_eq] at hu
    have : FaM σ u := by
      by_cases e : u = t
      · subst e; exact hf
      · exact h.2.2.1 u (by omega)
    exact this.of rfl (Int.le_refl _) (fun _ _ => rfl) (fun _ _ => rfl)
  · have := h.2.2.2.1 k
    rw [ux_wI_eq, ux_wI_ne (by rintro ⟨q, _⟩; exact absurd q (by decide))]; omega
theorem IvM.w6 {g : Nat} {σ : S2} {i : Nat} {x : Int32} (h : IvM g σ) (h0 : x.toInt < (σ.1 0 9).toInt) (h1 : loM 6 i ≤ x.toInt) (h2 : x.toInt ≤ hiM 6 i) : IvM g (ux_wI σ 6 i x) := by
  refine ⟨h.1.wI h1 h2, h.2.1, fun t ht => (h.2.2.1 t ht).of rfl (Int.le_refl _) (fun _ _ => rfl) (fun _ _ => rfl), fun j => ?_, h.2.2.2.2⟩
  by_cases e : j = i
  · subst e; rw [ux_wI_eq]; exact h0
  · rw [ux_wI_ne (fun q => e q.2)]; exact h.2.2.2.1 j
theorem IvM.w26 {g : Nat} {σ : S2} {i : Nat} {x : Int32} (h : IvM g σ) (h0 : x.toInt < (σ.1 0 3).toInt) (h1 : loM 26 i ≤ x.toInt) (h2 : x.toInt ≤ hiM 26 i) : IvM g (ux_wI σ 26 i x) := by
  refine ⟨h.1.wI h1 h2, h.2.1, fun t ht => (h.2.2.1 t ht).of rfl (Int.le_refl _) (fun _ _ => rfl) (fun _ _ => rfl), h.2.2.2.1, fun j => ?_, h.2.2.2.2.2⟩
  by_cases e : j = i
  · subst e; rw [ux_wI_eq]; exact Or.inl h0
  · rw [ux_wI_ne (fun q => e q.2)]; exact h.2.2.2.2.1 j
theorem IvM.weak {g : Nat} {σ : S2} (h : IvM g σ) : IvM 1 σ := ⟨h.1, h.2.1, fun t ht => h.2.2.1 t (by omega), h.2.2.2⟩
theorem IvM.full {g h' : Nat} {σ : S2} (h : IvM h' σ) (hf : FaM σ 10) : IvM g σ := ⟨h.1, h.2.1, fun t ht => by
  by_cases e : t = 10
  · subst e; exact hf
  · exact h.2.2.1 t (by omega), h.2.2.2⟩
/-- what the reading of a law leaves as it was -/
noncomputable def KeM (w σ : S2) : Prop := σ.1 8 = w.1 8 ∧ σ.1 15 = w.1 15 ∧ σ.1 18 = w.1 18 ∧ σ.1 4 = w.1 4 ∧ σ.1 0 3 = w.1 0 3 ∧ σ.1 0 9 = w.1 0 9
theorem KeM.rf (σ : S2) : KeM σ σ := ⟨rfl, rfl, rfl, rfl, rfl, rfl⟩
theorem KeM.tr {a b c : S2} (h : KeM a b) (k : KeM b c) : KeM a c := ⟨k.1.trans h.1, k.2.1.trans h.2.1, k.2.2.1.trans h.2.2.1, k.2.2.2.1.trans h.2.2.2.1, k.2.2.2.2.1.trans h.2.2.2.2.1, k.2.2.2.2.2.trans h.2.2.2.2.2⟩
theorem KeM.co {w σ : S2} {t : Nat} (h : KeM w σ) (k : CoM w t) : CoM σ t := by
  obtain ⟨a, b, _, _, c, _⟩ := h
  unfold CoM
  rw [a, b, c]; exact k
noncomputable def BiM (σ : S2) (t k : Int32) : Prop := (σ.1 8 (Int32.toNatClampNeg t)).toInt.toNat.testBit (Int32.toNatClampNeg k) = true
noncomputable def IiM (σ : S2) (t k r : Int32) : Prop := r.toInt ≠ 0 ↔ BiM σ t k
noncomputable def SsM (σ : S2) (x : Int32) : Prop := 0 ≤ x.toInt ∧ x.toInt < 2 ^ (σ.1 0 3).toInt.toNat
noncomputable def SxM (σ : S2) (t : Int32) : Prop := SsM σ (σ.1 8 (Int32.toNatClampNeg t))
noncomputable def PcM (σ : S2) (t x : Int32) : Prop := ∀ k : Nat, (k : Int) < x.toInt → 1 ≤ (σ.1 15 (12 * Int32.toNatClampNeg t + k)).toInt
theorem testBit_lt {x K k : Nat} (h : x < 2 ^ K) (hb : x.testBit k = true) : k < K := by
  rcases Nat.lt_or_ge k K with q | q
  · exact q
  · rw [Nat.testBit_lt_two_pow (Nat.lt_of_lt_of_le h (Nat.pow_le_pow_right (by decide) q))] at hb; exact absurd hb (by decide)
theorem toNat_lt2 {x : Int} {K : Nat} (h0 : 0 ≤ x) (h : x < 2 ^ K) : x.toNat < 2 ^ K := by
  have : ((2 ^ K : Nat) : Int) = 2 ^ K := by push_cast; rfl
  omega
theorem CoM.mk' {σ : S2} {t x : Int32} (h : SxM σ t) (k : PcM σ t x) (hx : (σ.1 0 3).toInt ≤ x.toInt) : CoM σ (Int32.toNatClampNeg t) := by
  refine ⟨h, fun j hj hb => k j ?_⟩
  have := testBit_lt (toNat_lt2 h.1 h.2) hb
  omega
theorem PcM.step {σ : S2} {t x r y : Int32} {i : Nat} (k : PcM σ t x) (hi : i = 12 * Int32.toNatClampNeg t + Int32.toNatClampNeg x) (h0 : 0 ≤ x.toInt) (hr : 1 ≤ r.toInt) (hy : y.toInt = x.toInt + 1) : PcM (ux_wI σ 15 i r) t y := by
  intro j hj
  have := i32_nat h0
  by_cases e : 12 * Int32.toNatClampNeg t + j = i
  · rw [e, ux_wI_eq]; exact hr
  · rw [ux_wI_ne (fun q => e q.2)]; exact k j (by omega)
theorem bit_sar {a x : Int32} (h0 : 0 ≤ a.toInt) (h1 : a.toInt ≤ 4095) (h2 : 0 ≤ x.toInt) (h3 : x.toInt ≤ 11) : ((a >>> (x &&& 31)) &&& 1).toInt = if a.toInt.toNat.testBit (Int32.toNatClampNeg x) then 1 else 0 := by
  have key : ∀ k : Nat, k < 12 → ((a >>> (Int32.ofInt (k : Int) &&& 31)) &&& 1).toInt = if a.toInt.toNat.testBit k then 1 else 0 := by
    intro k hk
    obtain ⟨v, rfl⟩ : ∃ v : BitVec 32, a = Int32.ofBitVec v := ⟨a.toBitVec, rfl⟩
    have hv : v.msb = false ∧ v.toInt = (v.toNat : Int) := bv_nn (x := v) h0
    have e0 : (Int32.ofBitVec v).toInt.toNat = v.toNat := by
      show v.toInt.toNat = _
      rw [hv.2]; rfl
    have e1 : v.toNat.testBit k = v.getLsbD k := rfl
    rw [e0, e1]
    have hk' : k = 0 ∨ k = 1 ∨ k = 2 ∨ k = 3 ∨ k = 4 ∨ k = 5 ∨ k = 6 ∨ k = 7 ∨ k = 8 ∨ k = 9 ∨ k = 10 ∨ k = 11 := by omega
    have fin : ∀ (s : Int32) (w : BitVec 32), s.toBitVec = w → ((Int32.ofBitVec v >>> s) &&& 1).toInt = (BitVec.sshiftRight' v (w.smod 32#32) &&& 1#32).toInt := by
      rintro s _ rfl; rfl
    have one : ∀ w : BitVec 32, (w &&& 1#32).toInt = if w.getLsbD 0 then 1 else 0 := by
      intro w
      cases h : w.getLsbD 0
      · have : w &&& 1#32 = 0#32 := by
          apply BitVec.eq_of_getLsbD_eq; intro i hi
          rw [BitVec.getLsbD_and]
          by_cases e : i = 0
          · subst e; rw [h]; rfl
          · have : (1#32).getLsbD i = false := by rw [BitVec.getLsbD_one]; simp [e]
            rw [this, Bool.and_false, BitVec.getLsbD_zero]
        rw [this]; rfl
      · have : w &&& 1#32 = 1#32 := by
          apply BitVec.eq_of_getLsbD_eq; intro i hi
          rw [BitVec.getLsbD_and]
          by_cases e : i = 0
          · subst e; rw [h]; rfl
          · have : (1#32).getLsbD i = false := by rw [BitVec.getLsbD_one]; simp [e]
            rw [this, Bool.and_false]
        rw [this]; rfl
    have sh : (BitVec.sshiftRight' v (BitVec.ofNat 32 k)).getLsbD 0 = v.getLsbD k := by
      rw [BitVec.sshiftRight_eq', BitVec.getLsbD_sshiftRight]
      have : (BitVec.ofNat 32 k).toNat = k := by rw [BitVec.toNat_ofNat]; exact Nat.mod_eq_of_lt (by omega)
      rw [this]
      have h32 : k < 32 := by omega
      simp [h32]
    rw [fin _ _ rfl, one]
    have : ((Int32.ofInt (k : Int) &&& 31).toBitVec.smod 32#32) = BitVec.ofNat 32 k := by
      rcases hk' with rfl | rfl | rfl | rfl | rfl | rfl | rfl | rfl | rfl | rfl | rfl | rfl <;> decide
    rw [this, sh]
  have e := i32_nat h2
  have hx : x = Int32.ofInt ((Int32.toNatClampNeg x : Nat) : Int) := by
    apply Int32.toInt_inj.mp; rw [Int32.toInt_ofInt]; have hs : (Int32.size : Int) = 4294967296 := rfl
    rw [e]; exact (Int.bmod_eq_of_le (by omega) (by omega)).symm
  have := key (Int32.toNatClampNeg x) (by omega)
  rw [← hx] at this; exact this
theorem SsM.xor {σ : S2} {a b c : Int32} (h : SsM σ a) (hb0 : 0 ≤ b.toInt) (hb1 : b.toInt ≤ 1) (hc : 0 ≤ c.toInt) (hk : c.toInt < (σ.1 0 3).toInt) (h12 : (σ.1 0 3).toInt ≤ 12) : SsM σ (a ^^^ (b <<< (c &&& 31))) := by
  have hs : 0 ≤ (b <<< (c &&& 31)).toInt ∧ (b <<< (c &&& 31)).toInt ≤ 2 ^ ((σ.1 0 3).toInt.toNat) - 1 := by
    have p1 : (1 : Int) ≤ 2 ^ ((σ.1 0 3).toInt.toNat) := by
      have := Nat.one_le_two_pow (n := (σ.1 0 3).toInt.toNat)
      exact_mod_cast this
    rcases i32_bit hb0 hb1 with rfl | rfl
    · have : (0 : Int32) <<< (c &&& 31) = 0 := Int32.toBitVec_inj.mp (by show BitVec.shiftLeft _ _ = _; exact BitVec.zero_shiftLeft _)
      rw [this]
      have : (0 : Int32).toInt = 0 := rfl
      omega
    · rw [i32_shl1 hc (by omega)]
      have hp : 2 ^ (c.toInt.toNat + 1) ≤ 2 ^ (σ.1 0 3).toInt.toNat := Nat.pow_le_pow_right (by decide) (by omega)
      have e1 : (2 : Int) ^ (c.toInt.toNat + 1) ≤ 2 ^ (σ.1 0 3).toInt.toNat := by exact_mod_cast hp
      have e2 : (2 : Int) ^ (c.toInt.toNat + 1) = 2 ^ c.toInt.toNat * 2 := Int.pow_succ _ _
      have e3 : (1 : Int) ≤ 2 ^ c.toInt.toNat := by
        have := Nat.one_le_two_pow (n := c.toInt.toNat)
        exact_mod_cast this
      omega
  have hp : ((2 ^ (σ.1 0 3).toInt.toNat : Nat) : Int) = 2 ^ (σ.1 0 3).toInt.toNat := by push_cast; rfl
  have := h.2
  have := i32_xorB (a := a) (b := b <<< (c &&& 31)) (σ.1 0 3).toInt.toNat _ (by omega) rfl h.1 (by omega) hs.1 (by omega)
  exact ⟨this.1, by omega⟩
theorem IiM.one {σ : S2} {t k v : Int32} (hv : v = σ.1 8 (Int32.toNatClampNeg t)) (a0 : 0 ≤ v.toInt) (a1 : v.toInt ≤ 4095) (k0 : 0 ≤ k.toInt) (k1 : k.toInt ≤ 11) (h : ((v >>> (k &&& 31)) &&& 1).toInt = (1 : Int32).toInt) : IiM σ t k 1 := by
  rw [bit_sar a0 a1 k0 k1] at h
  refine ⟨fun _ => ?_, fun _ => by decide⟩
  unfold BiM
  rw [← hv]
  cases q : v.toInt.toNat.testBit (Int32.toNatClampNeg k)
  · rw [q] at h; exact absurd h (by decide)
  · rfl
theorem IiM.zero {σ : S2} {t k v : Int32} (hv : v = σ.1 8 (Int32.toNatClampNeg t)) (a0 : 0 ≤ v.toInt) (a1 : v.toInt ≤ 4095) (k0 : 0 ≤ k.toInt) (k1 : k.toInt ≤ 11) (h : ((v >>> (k &&& 31)) &&& 1).toInt ≠ (1 : Int32).toInt) : IiM σ t k 0 := by
  rw [bit_sar a0 a1 k0 k1] at h
  refine ⟨fun q => absurd (rfl : (0 : Int32).toInt = 0) q, fun hb => ?_⟩
  unfold BiM at hb
  rw [← hv] at hb
  rw [hb] at h; exact absurd (rfl : (1 : Int) = (1 : Int32).toInt) h
theorem keep_pos {a x : Int} (h0 : 0 < x) (h : x < 2 ^ a.toNat) : 1 ≤ a := by
  by_cases e : 1 ≤ a
  · exact e
  · have : a.toNat = 0 := by omega
    rw [this] at h
    have : (2 : Int) ^ 0 = 1 := rfl
    omega
theorem co_cnt {g : Nat} {σ : S2} {x1 x4 r : Int32} (hI : IvM g σ) (h1 : x1.toInt < (σ.1 0 9).toInt) (h0 : 0 ≤ x1.toInt) (hx : x1.toInt ≤ 10) (h2 : 0 ≤ x4.toInt) (h3 : x4.toInt ≤ 11) (h : IiM σ x1 x4 r) (hr : r.toInt ≠ 0) : 1 ≤ (σ.1 15 (Int32.toNatClampNeg ((12 * x1) + x4))).toInt := by
  have e1 := i32_nat h0
  have e2 := i32_nat h2
  have e12 : (12 : Int32).toInt = 12 := rfl
  have em : (12 * x1).toInt = 12 * x1.toInt := i32_mulL e12 (by omega) (by omega)
  have ea : ((12 * x1) + x4).toInt = 12 * x1.toInt + x4.toInt := by rw [i32_add (by omega) (by omega), em]
  have en := i32_nat (i := (12 * x1) + x4) (by omega)
  have e : Int32.toNatClampNeg ((12 * x1) + x4) = 12 * Int32.toNatClampNeg x1 + Int32.toNatClampNeg x4 := by omega
  rw [e]
  exact (hI.2.2.1 (Int32.toNatClampNeg x1) (by omega)).1.2 _ (by omega) (h.mp hr)
theorem ss_of {g : Nat} {σ : S2} {x1 : Int32} (hI : IvM g σ) (h0 : 0 ≤ x1.toInt) (h1 : x1.toInt < (σ.1 0 9).toInt) : SsM σ (σ.1 8 (Int32.toNatClampNeg x1)) := by
  have e1 := i32_nat h0
  exact (hI.2.2.1 (Int32.toNatClampNeg x1) (by omega)).1.1
theorem ok_somev {S : Type} {Q : Int32 × S → Prop} {a : Int32} {σ : S} (h : ∀ v : Int32, v.toInt = a.toInt → Q (v, σ)) : Ok Q (some (a, σ)) := ok_some (h a rfl)
theorem sub100 {r : Int32} (h0 : 0 ≤ r.toInt) (h1 : r.toInt ≤ 80) : (-180) ≤ ((-100) - r).toInt ∧ ((-100) - r).toInt ≤ 9 := by
  have e : ((-100 : Int32)).toInt = -100 := by decide
  generalize (-100 : Int32) = q at e ⊢
  rw [i32_sub (by omega) (by omega)]; omega
end
