/-! which sets make a table -/
theorem bv_set {x : BitVec 32} {n : Nat} (hn : n ≤ 12) : (x &&& ~~~(BitVec.ofNat 32 (2 ^ n - 1)) = 0#32) ↔ x.toNat < 2 ^ n := by
  have mb : ∀ i, i < 32 → (BitVec.ofNat 32 (2 ^ n - 1)).getLsbD i = decide (i < n) := fun i hi => by
    rw [BitVec.getLsbD_ofNat, Nat.testBit_two_pow_sub_one, decide_eq_true hi, Bool.true_and]
  constructor
  · intro h
    by_cases c : x.toNat < 2 ^ n
    · exact c
    · exfalso
      obtain ⟨i, hi, hb⟩ := Nat.exists_ge_and_testBit_of_ge_two_pow (Nat.not_lt.mp c)
      have h32 : i < 32 := by
        by_cases q : i < 32
        · exact q
        · rw [Nat.testBit_lt_two_pow (Nat.lt_of_lt_of_le x.isLt (Nat.pow_le_pow_right (by decide) (Nat.not_lt.mp q)))] at hb; cases hb
      have e : (x &&& ~~~(BitVec.ofNat 32 (2 ^ n - 1))).getLsbD i = (0#32).getLsbD i := congrArg (fun v => BitVec.getLsbD v i) h
      rw [BitVec.getLsbD_and, BitVec.getLsbD_not, mb i h32, BitVec.getLsbD_zero, show x.getLsbD i = true from hb, decide_eq_true h32, decide_eq_false (show ¬ i < n by omega)] at e
      cases e
  · intro h
    refine BitVec.eq_of_getLsbD_eq (fun i hi => ?_)
    rw [BitVec.getLsbD_and, BitVec.getLsbD_not, mb i hi, BitVec.getLsbD_zero]
    by_cases q : i < n
    · rw [decide_eq_true q]; simp
    · have e : x.getLsbD i = false := Nat.testBit_lt_two_pow (Nat.lt_of_lt_of_le h (Nat.pow_le_pow_right (by decide) (Nat.not_lt.mp q)))
      rw [e, Bool.false_and]
theorem set_iff {x n : Int32} (n0 : 0 ≤ n.toInt) (n1 : n.toInt ≤ 12) : (x ≠ 0 ∧ x &&& ((((1 : Int32) <<< (n &&& 31)) - 1) ^^^ (-1)) = 0) ↔ (0 < x.toInt ∧ x.toInt < 2 ^ n.toInt.toNat) := by
  have key := (by decide +kernel : ∀ k : Fin 13, ((((1 : Int32) <<< (Int32.ofNat k.val &&& 31)) - 1) ^^^ (-1)).toBitVec = ~~~(BitVec.ofNat 32 (2 ^ k.val - 1))) ⟨n.toInt.toNat, by omega⟩
  have en : Int32.ofNat n.toInt.toNat = n := Int32.toInt_inj.mp (by rw [Int32.toInt_ofNat_of_lt (by omega)]; omega)
  have key : ((((1 : Int32) <<< (Int32.ofNat n.toInt.toNat &&& 31)) - 1) ^^^ (-1)).toBitVec = ~~~(BitVec.ofNat 32 (2 ^ n.toInt.toNat - 1)) := key
  rw [en] at key
  have e1 : x &&& ((((1 : Int32) <<< (n &&& 31)) - 1) ^^^ (-1)) = 0 ↔ x.toBitVec.toNat < 2 ^ n.toInt.toNat := by
    rw [← bv_set (x := x.toBitVec) (n := n.toInt.toNat) (by omega), ← key]
    exact ⟨fun h => congrArg Int32.toBitVec h, fun h => Int32.toBitVec_inj.mp h⟩
  have p12 : 2 ^ n.toInt.toNat ≤ 4096 := by
    have w : 2 ^ n.toInt.toNat ≤ 2 ^ 12 := Nat.pow_le_pow_right (by decide) (by omega)
    have e : 2 ^ 12 = 4096 := by decide
    omega
  have ei : x.toInt = x.toBitVec.toInt := rfl
  rw [e1]
  constructor
  · rintro ⟨hx, hl⟩
    have e : x.toInt = (x.toBitVec.toNat : Int) := by rw [ei]; exact BitVec.toInt_eq_toNat_of_lt (by omega)
    have : x.toInt ≠ 0 := fun w => hx (Int32.toInt_inj.mp w)
    have c : ((2 ^ n.toInt.toNat : Nat) : Int) = (2 : Int) ^ n.toInt.toNat := by rw [Int.natCast_pow]; rfl
    rw [← c]
    omega
  · rintro ⟨h0, hl⟩
    have e := (bv_nn (x := x.toBitVec) (by rw [← ei]; omega)).2
    have c : ((2 ^ n.toInt.toNat : Nat) : Int) = (2 : Int) ^ n.toInt.toNat := by rw [Int.natCast_pow]; rfl
    rw [← c] at hl
    refine ⟨fun w => by rw [w] at h0; exact absurd h0 (by decide), ?_⟩
    omega
