/-! tape and names: class (σ) against reference (ρ) -/
theorem bit255 {i : Nat} (h : ¬ i < 8) : (255 : Int32).toBitVec.getLsbD i = false := by
  have e : (255 : Int32).toBitVec = BitVec.ofNat 32 255 := rfl
  rw [e, BitVec.getLsbD_ofNat]
  have : Nat.testBit 255 i = false := Nat.testBit_lt_two_pow (Nat.lt_of_lt_of_le (by decide : 255 < 2 ^ 8) (Nat.pow_le_pow_right (by decide) (by omega)))
  rw [this, Bool.and_false]
theorem byte255 (w : Int32) : (Int8.toInt32 (Int32.toInt8 w)) &&& 255 = w &&& 255 := by
  refine Int32.toBitVec_inj.mp (BitVec.eq_of_getLsbD_eq (fun i hi => ?_))
  rw [Int32.toBitVec_and, Int32.toBitVec_and, BitVec.getLsbD_and, BitVec.getLsbD_and]
  by_cases h8 : i < 8
  · have e : (Int8.toInt32 (Int32.toInt8 w)).toBitVec.getLsbD i = w.toBitVec.getLsbD i := by
      rw [Int8.toBitVec_toInt32, Int32.toBitVec_toInt8, BitVec.getLsbD_signExtend, BitVec.getLsbD_signExtend]
      simp [hi, h8]
    rw [e]
  · rw [bit255 h8, Bool.and_false, Bool.and_false]
theorem nar_byte (w : Int32) : vp_nar .byte w = Int8.toInt32 (Int32.toInt8 w) := rfl
theorem sh255 (v : Int32) (A : UInt32) (B : Int32) (n : Nat) (hA : (A.toBitVec % 32).toNat = n) (hB : (B.toBitVec.smod 32).toNat = n) (h : n ≤ 24) : (UInt32.toInt32 (Int32.toUInt32 v >>> A)) &&& 255 = (v >>> B) &&& 255 := by
  refine Int32.toBitVec_inj.mp (BitVec.eq_of_getLsbD_eq (fun i hi => ?_))
  rw [Int32.toBitVec_and, Int32.toBitVec_and, BitVec.getLsbD_and, BitVec.getLsbD_and]
  by_cases h8 : i < 8
  · have e1 : (UInt32.toInt32 (Int32.toUInt32 v >>> A)).toBitVec.getLsbD i = v.toBitVec.getLsbD (n + i) := by
      show (v.toBitVec >>> (A.toBitVec % 32)).getLsbD i = _
      rw [BitVec.ushiftRight_eq', hA, BitVec.getLsbD_ushiftRight]
    have e2 : (v >>> B).toBitVec.getLsbD i = v.toBitVec.getLsbD (n + i) := by
      show (v.toBitVec.sshiftRight' (B.toBitVec.smod 32)).getLsbD i = _
      rw [BitVec.sshiftRight_eq', hB, BitVec.getLsbD_sshiftRight, if_pos (by omega)]
      simp [hi]
    rw [e1, e2]
  · rw [bit255 h8, Bool.and_false, Bool.and_false]
/-- the byte that feed takes, of both sides -/
theorem fed255 (v x3 : Int32) (h0 : 0 ≤ x3.toInt) (h3 : x3.toInt ≤ 3) : (vp_nar .byte (Int8.toInt32 (Int32.toInt8 (UInt32.toInt32 (Int32.toUInt32 v >>> (Int32.toUInt32 (8 * x3) &&& Int32.toUInt32 31)))))) &&& 255 = (v >>> ((8 * x3) &&& 31)) &&& 255 := by
  rw [nar_byte, Int8.toInt8_toInt32, byte255]
  have : x3.toInt = 0 ∨ x3.toInt = 1 ∨ x3.toInt = 2 ∨ x3.toInt = 3 := by omega
  rcases this with e | e | e | e
  · have : x3 = 0 := Int32.toInt_inj.mp e
    subst this
    exact sh255 v _ _ 0 (by decide) (by decide) (by decide)
  · have : x3 = 1 := Int32.toInt_inj.mp e
    subst this
    exact sh255 v _ _ 8 (by decide) (by decide) (by decide)
  · have : x3 = 2 := Int32.toInt_inj.mp e
    subst this
    exact sh255 v _ _ 16 (by decide) (by decide) (by decide)
  · have : x3 = 3 := Int32.toInt_inj.mp e
    subst this
    exact sh255 v _ _ 24 (by decide) (by decide) (by decide)
/-- two bytes with the same low eight bits -/
theorem byte_inj {a b : Int32} (ha : -128 ≤ a.toInt ∧ a.toInt ≤ 127) (hb : -128 ≤ b.toInt ∧ b.toInt ≤ 127) (h : a &&& 255 = b &&& 255) : a = b := by
  have key : ∀ x : Int32, -128 ≤ x.toInt ∧ x.toInt ≤ 127 → Int8.toInt32 (Int32.toInt8 x) = x := fun x hx => by
    refine Int32.toInt_inj.mp ?_
    rw [Int8.toInt_toInt32, Int32.toInt_toInt8]
    rw [Int.bmod_eq_of_le (by omega) (by omega)]
  have low : ∀ x : Int32, Int8.toInt32 (Int32.toInt8 (x &&& 255)) = Int8.toInt32 (Int32.toInt8 x) := fun x => by
    refine congrArg Int8.toInt32 (Int8.toBitVec_inj.mp (BitVec.eq_of_getLsbD_eq (fun i hi => ?_)))
    rw [Int32.toBitVec_toInt8, Int32.toBitVec_toInt8, BitVec.getLsbD_signExtend, BitVec.getLsbD_signExtend, Int32.toBitVec_and, BitVec.getLsbD_and]
    have e : (255 : Int32).toBitVec.getLsbD i = true := by
      have : i = 0 ∨ i = 1 ∨ i = 2 ∨ i = 3 ∨ i = 4 ∨ i = 5 ∨ i = 6 ∨ i = 7 := by omega
      rcases this with e | e | e | e | e | e | e | e <;> subst e <;> rfl
    rw [e, Bool.and_true, if_pos (by omega), if_pos (by omega)]
  rw [← key a ha, ← key b hb, ← low a, ← low b, h]
def RTp (σ ρ : S2) : Prop := ρ.1 0 22 = σ.1 1 1 ∧ ∀ i : Nat, ρ.1 19 i = σ.1 2 i &&& 255
def RNm (σ ρ : S2) : Prop := ρ.1 0 0 = σ.1 3 3 ∧ ∀ n : Nat, (n : Int) < (σ.1 3 3).toInt → ρ.1 1 n = σ.1 5 n ∧ ∀ k : Nat, (k : Int) < (σ.1 5 n).toInt → ρ.1 2 (6 * n + k) = σ.1 (44 + n) k &&& 255
theorem feed_lp {x1 x2 : Int32} (h4 : x1.toInt ≤ 4) {τ : Nat} : ∀ (N M : Nat) (σ ρ σ' ρ' : S2) (x3 q : Int32) (u : Unit), RTp σ ρ → 0 ≤ (σ.1 1 1).toInt → (σ.1 1 1).toInt + x1.toInt - x3.toInt ≤ 80 → 0 ≤ x3.toInt → fX9_append_2 τ N σ x1 x2 x3 = some (u, σ') → fX12_feed_27 M ρ x1 x2 x3 = some (q, ρ') → q = σ'.1 1 1 ∧ RTp σ' ρ' := by
  have z1 := i_1
  have z80 : (80 : Int32).toInt = 80 := rfl
  intro N
  induction N with
  | zero => intro M σ ρ σ' ρ' x3 q u _ _ _ _ h; cases h
  | succ N ih =>
    intro M σ ρ σ' ρ' x3 q u hR h0 h8 h3 h h2
    cases M with
    | zero => cases h2
    | succ M =>
      unfold fX9_append_2 at h
      unfold fX12_feed_27 at h2
      by_cases c : x1 ≤ x3
      · rw [if_pos c] at h h2
        cases h; cases h2
        exact ⟨hR.1, hR⟩
      rw [if_neg c] at h h2
      have c' : ¬ x1.toInt ≤ x3.toInt := fun w => c (Int32.le_iff_toInt_le.mpr w)
      rw [if_neg (fun w => by have := Int32.le_iff_toInt_le.mp w; omega)] at h
      rw [hR.1] at h2
      obtain ⟨_, h⟩ := ckS h
      obtain ⟨_, h2⟩ := ckS h2
      generalize hb : (vp_nar .byte (Int8.toInt32 (Int32.toInt8 (UInt32.toInt32 (Int32.toUInt32 x2 >>> (Int32.toUInt32 (8 * x3) &&& Int32.toUInt32 31)))))) = b at h
      have hb2 : (x2 >>> ((8 * x3) &&& 31)) &&& 255 = b &&& 255 := by rw [← hb]; exact (fed255 x2 x3 h3 (by omega)).symm
      rw [hb2] at h2
      have h : fX9_append_2 τ N (ux_wI (ux_wI σ 2 (σ.1 1 1).toNatClampNeg b) 1 1 (σ.1 1 1 + 1)) x1 x2 (x3 + 1) = some (u, σ') := h
      have h2 : fX12_feed_27 M (ux_wI (ux_wI ρ 19 (σ.1 1 1).toNatClampNeg (b &&& 255)) 0 22 (ρ.1 0 22 + 1)) x1 x2 (x3 + 1) = some (q, ρ') := h2
      have e3 : (x3 + 1).toInt = x3.toInt + 1 := by rw [i32_add (by omega) (by omega)]; omega
      have e1 : (σ.1 1 1 + 1).toInt = (σ.1 1 1).toInt + 1 := by rw [i32_add (by omega) (by omega)]; omega
      refine ih M _ _ σ' ρ' (x3 + 1) q u ⟨?_, fun i => ?_⟩ ?_ ?_ (by omega) h h2
      · show ρ.1 0 22 + 1 = σ.1 1 1 + 1
        rw [hR.1]
      · show (if i = (σ.1 1 1).toNatClampNeg then b &&& 255 else ρ.1 19 i) = (if i = (σ.1 1 1).toNatClampNeg then b else σ.1 2 i) &&& 255
        by_cases k : i = (σ.1 1 1).toNatClampNeg
        · rw [if_pos k, if_pos k]
        · rw [if_neg k, if_neg k]; exact hR.2 i
      · show 0 ≤ (σ.1 1 1 + 1).toInt
        omega
      · show (σ.1 1 1 + 1).toInt + x1.toInt - (x3 + 1).toInt ≤ 80
        omega
theorem st_feed0 {σ ρ σ' ρ' : S2} {τ : Nat} {a b r q : Int32} (hR : RTp σ ρ) (hI : IvC 0 τ σ) (h : fX11_feed τ σ a b = some (r, σ')) (h2 : fX12_feed ρ a b = some (q, ρ')) : r = q ∧ RTp σ' ρ' := by
  have z0 := i_0
  have z1 := i_1
  have z4 := i_4
  have z80 : (80 : Int32).toInt = 80 := rfl
  have b1 : 0 ≤ (σ.1 1 1).toInt ∧ (σ.1 1 1).toInt ≤ 80 := hI.1 1 1
  unfold fX11_feed fX11_feed_0 at h
  unfold fX12_feed fX12_feed_0 at h2
  obtain ⟨r4, e4, h2⟩ := biS h2
  have e4 := q_in _ e4
  by_cases c1 : a < 1
  · rw [if_pos c1] at h
    have c1 := Int32.lt_iff_toInt_lt.mp c1
    rw [if_pos (Int32.toInt_inj.mp (by rw [z0]; omega))] at h2
    cases h; cases h2; exact ⟨rfl, hR⟩
  rw [if_neg c1] at h
  have c1' : ¬ a.toInt < (1 : Int32).toInt := fun w => c1 (Int32.lt_iff_toInt_lt.mpr w)
  by_cases c2 : a ≤ 4
  · rw [if_pos c2] at h
    have c2 := Int32.le_iff_toInt_le.mp c2
    rw [if_neg (fun w => by rw [w] at e4; omega), hR.1] at h2
    by_cases c3 : σ.1 1 1 + a ≤ 80
    · rw [if_pos c3] at h h2
      have c3 := Int32.le_iff_toInt_le.mp c3
      have es : (σ.1 1 1 + a).toInt = (σ.1 1 1).toInt + a.toInt := i32_add (by omega) (by omega)
      obtain ⟨u, s1, h3, h⟩ := bsS h
      cases h
      have := feed_lp (x1 := a) (x2 := b) (by omega) FU FU σ ρ _ ρ' 0 q u hR b1.1 (by omega) (by decide) h3 h2
      exact ⟨this.1.symm, this.2⟩
    · rw [if_neg c3] at h h2
      cases h; cases h2; exact ⟨rfl, hR⟩
  · rw [if_neg c2] at h
    have c2' : ¬ a.toInt ≤ (4 : Int32).toInt := fun w => c2 (Int32.le_iff_toInt_le.mpr w)
    rw [if_pos (Int32.toInt_inj.mp (by rw [z0]; omega))] at h2
    cases h; cases h2; exact ⟨rfl, hR⟩
