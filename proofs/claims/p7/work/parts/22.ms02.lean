theorem or_bit {x v : Int32} {k : Nat} (h0 : 0 ≤ x.toInt) (hv : v.toInt = (k : Int)) (hk : k < 12) : 0 ≤ (x ||| (1 <<< (v &&& 31))).toInt ∧ ∀ j, (x ||| (1 <<< (v &&& 31))).toInt.toNat.testBit j = (x.toInt.toNat.testBit j || decide (j = k)) := by
  have hs := i32_shl1 (x := v) (by omega) (by omega)
  have ek : v.toInt.toNat = k := by omega
  rw [ek] at hs
  generalize (1 : Int32) <<< (v &&& 31) = w at hs ⊢
  have hp : ((2 ^ k : Nat) : Int) = 2 ^ k := by push_cast; rfl
  have hp0 := Nat.two_pow_pos k
  obtain ⟨a1, a2⟩ := bv_nn (x := x.toBitVec) h0
  obtain ⟨b1, b2⟩ := bv_nn (x := w.toBitVec) (show 0 ≤ w.toInt by omega)
  have e : (x ||| w).toInt = ((x.toBitVec ||| w.toBitVec).toNat : Int) := BitVec.toInt_eq_toNat_of_msb (x := x.toBitVec ||| w.toBitVec) (by rw [BitVec.msb_or, a1, b1]; rfl)
  have a3 : x.toInt = (x.toBitVec.toNat : Int) := a2
  have b3 : w.toInt = (w.toBitVec.toNat : Int) := b2
  have b4 : w.toBitVec.toNat = 2 ^ k := by omega
  refine ⟨by omega, fun j => ?_⟩
  have e1 : (x ||| w).toInt.toNat = x.toBitVec.toNat ||| w.toBitVec.toNat := by
    rw [← BitVec.toNat_or]; omega
  have e2 : x.toInt.toNat = x.toBitVec.toNat := by omega
  rw [e1, e2, Nat.testBit_or, b4, Nat.testBit_two_pow]
  by_cases q : k = j
  · subst q; rfl
  · have q' : ¬ j = k := fun r => q r.symm
    rw [decide_eq_false q, decide_eq_false q']
theorem pb_walk {g : Nat} : ∀ (n : Nat) (σ : S2) (x1 x2 x3 x4 x5 x6 : Int32), 12 - x6.toInt < (n : Int) → IvM g σ → 0 ≤ x1.toInt → x1.toInt ≤ 10 → 0 ≤ x2.toInt → x2.toInt ≤ 999 → 0 ≤ x3.toInt → x3.toInt ≤ 4095 → SwM σ x1 x3 → 0 ≤ x6.toInt → x6.toInt ≤ 12 → ((x4.toInt = -1 ∧ ∀ k : Nat, (k : Int) < x6.toInt → ¬ NsM σ x1 x3 k) ∨ ∃ k, NsM σ x1 x3 k ∧ x4.toInt = (k : Int)) → (∃ k : Nat, NsM σ x1 x3 k ∧ (k : Int) < (σ.1 0 3).toInt) → Ok (fun z => IvM g z.2 ∧ (z.2.1 0 9).toInt = (σ.1 0 9).toInt ∧ PkM σ z.2 x1 x3) (fX12_pickBest_9 n σ x1 x2 x3 x4 x5 x6) := by
  intro n
  induction n with
  | zero => intro σ x1 x2 x3 x4 x5 x6 hm hI a0 a1 b0 b1 c0 c1 hs d0 d1 h4 hk; exfalso; omega
  | succ n ih =>
    intro σ x1 x2 x3 x4 x5 x6 hm hI a0 a1 b0 b1 c0 c1 hs d0 d1 h4 hk
    have h3 : 0 ≤ (σ.1 0 3).toInt ∧ (σ.1 0 3).toInt ≤ 12 := hI.1 0 3
    have one : (1 : Int32).toInt = 1 := rfl
    have m1 : ((-1 : Int32)).toInt = -1 := by decide
    have z0 : (0 : Int32).toInt = 0 := rfl
    unfold fX12_pickBest_9
    refine ok_le (fun he => ?_) (fun he => ?_)
    · rcases h4 with ⟨_, hno⟩ | ⟨k, hn, hv⟩
      · obtain ⟨k, hn, hlt⟩ := hk
        exact absurd hn (hno k (by omega))
      · exact pk_fin hI hs hn hv
    · have e12 : (12 : Int32).toInt = 12 := rfl
      have em : (12 * x1).toInt = 12 * x1.toInt := i32_mulL e12 (by omega) (by omega)
      have ea : ((12 * x1) + x6).toInt = 12 * x1.toInt + x6.toInt := by rw [i32_add (by omega) (by omega), em]
      have ep : (x6 + 1).toInt = x6.toInt + 1 := by rw [i32_add (by omega) (by omega), one]
      have en := i32_nat d0
      refine ok_ck (by omega) (by omega) (ok_nm (fun v4 _ => ?_))
      refine ok_bi (sX12_mixed σ x2 x6 v4 hI (by omega) (by omega) (by omega)) (fun r5 _ => ?_)
      refine ok_ck (by omega) (by omega) (ok_nm (fun v7 _ => ok_nm (fun v8 _ => ?_)))
      refine ok_bi (sX12_isIn σ x1 x6 hI (by omega) (by omega) (by omega) (by omega)) (fun r9 hr => ?_)
      obtain ⟨r0, r1, hii⟩ := hr
      have skip : ¬ NsM σ x1 x3 (Int32.toNatClampNeg x6) → Ok (fun z => IvM g z.2 ∧ (z.2.1 0 9).toInt = (σ.1 0 9).toInt ∧ PkM σ z.2 x1 x3) (fX12_pickBest_85 (fX12_pickBest_9 n) σ x1 x2 x3 x4 x5 x6) := by
        intro hno
        unfold fX12_pickBest_85
        refine ok_nmI (fun v1 _ e1 => ?_)
        refine ih σ x1 x2 x3 x4 x5 v1 (by omega) hI a0 a1 b0 b1 c0 c1 hs (by omega) (by omega) ?_ hk
        rcases h4 with ⟨q1, q2⟩ | q
        · refine Or.inl ⟨q1, fun k hk' => ?_⟩
          by_cases e : k = Int32.toNatClampNeg x6
          · subst e; exact hno
          · exact q2 k (by omega)
        · exact Or.inr q
      have skip2 : (∃ k, NsM σ x1 x3 k ∧ x4.toInt = (k : Int)) → Ok (fun z => IvM g z.2 ∧ (z.2.1 0 9).toInt = (σ.1 0 9).toInt ∧ PkM σ z.2 x1 x3) (fX12_pickBest_85 (fX12_pickBest_9 n) σ x1 x2 x3 x4 x5 x6) := by
        intro hq
        unfold fX12_pickBest_85
        exact ok_nmI (fun v1 _ e1 => ih σ x1 x2 x3 x4 x5 v1 (by omega) hI a0 a1 b0 b1 c0 c1 hs (by omega) (by omega) (Or.inr hq) hk)
      have take : NsM σ x1 x3 (Int32.toNatClampNeg x6) → Ok (fun z => IvM g z.2 ∧ (z.2.1 0 9).toInt = (σ.1 0 9).toInt ∧ PkM σ z.2 x1 x3) (fX12_pickBest_77 (fX12_pickBest_9 n) σ x1 x2 x3 x6 v8) := by
        intro hn
        unfold fX12_pickBest_77 fX12_pickBest_85
        exact ok_nmI (fun v1 _ e1 => ih σ x1 x2 x3 x6 v8 v1 (by omega) hI a0 a1 b0 b1 c0 c1 hs (by omega) (by omega) (Or.inr ⟨_, hn, by omega⟩) hk)
      have hb := bit_sar (a := x3) (x := x6) hs.1 c1 (by omega) (by omega)
      refine ok_eq (fun h0 => skip (fun hn => ?_)) (fun h0 => ?_)
      · exact absurd (hii.mpr hn.2.1) (by omega)
      · refine ok_eq (fun hz => ?_) (fun hz => skip (fun hn => ?_))
        · have hx : x3.toInt.toNat.testBit (Int32.toNatClampNeg x6) = false := by
            cases e : x3.toInt.toNat.testBit (Int32.toNatClampNeg x6)
            · rfl
            · rw [e] at hb; rw [hb] at hz; exact absurd hz (by decide)
          have hn : NsM σ x1 x3 (Int32.toNatClampNeg x6) := ⟨by omega, hii.mp (by omega), hx⟩
          refine ok_eq (fun hm1 => take hn) (fun hm1 => ?_)
          refine ok_le (fun _ => skip2 ?_) (fun _ => take hn)
          rcases h4 with ⟨q1, _⟩ | q
          · exfalso; omega
          · exact q
        · rw [hn.2.2] at hb; exact hz hb
theorem sX12_pickBest {g : Nat} (t0 : Int) (σ : S2) (a1 : Int32) (a2 : Int32) (a3 : Int32) (hI : IvM g σ) (p9000 : 0 ≤ a1.toInt) (p9001 : a1.toInt ≤ 10) (p9002 : 0 ≤ a2.toInt) (p9003 : a2.toInt ≤ 999) (p9004 : 0 ≤ a3.toInt) (p9005 : a3.toInt ≤ 4095) (p9006 : (σ.1 0 9).toInt = t0) (p9007 : SwM σ a1 a3) (p9008 : a3.toInt ≠ (σ.1 8 (Int32.toNatClampNeg a1)).toInt) (p9009 : (a1.toInt < (σ.1 0 9).toInt ∨ (a1.toInt = 10 ∧ g = 0)))  : Ok (fun z => IvM g z.2 ∧ (z.2.1 0 9).toInt = t0 ∧ PkM σ z.2 a1 a3) (fX12_pickBest σ a1 a2 a3) := by
  have e1 := i32_nat (i := a1) (by omega)
  have hf : FaM σ (Int32.toNatClampNeg a1) := hI.2.2.1 _ (by omega)
  have h3 : 0 ≤ (σ.1 0 3).toInt ∧ (σ.1 0 3).toInt ≤ 12 := hI.1 0 3
  have hs : SwM σ a1 a3 := by assumption
  obtain ⟨k, hk⟩ := hs.ns hf h3.2 (by assumption)
  have hl := testBit_lt (toNat_lt2 hf.1.1.1 hf.1.1.2) hk.2.1
  have hFU : FU = 100000 := rfl
  have z0 : (0 : Int32).toInt = 0 := rfl
  unfold fX12_pickBest fX12_pickBest_0
  exact ok_mono (pb_walk FU σ a1 a2 a3 (-1) 0 0 (by omega) hI (by omega) (by omega) (by omega) (by omega) (by omega) (by omega) hs (by omega) (by omega) (Or.inl ⟨by decide, fun k' hk' => by exfalso; omega⟩) ⟨k, hk, by omega⟩) (fun z hz => ⟨hz.1, by have := hz.2.1; omega, hz.2.2⟩)

theorem SwM.le {g : Nat} {σ : S2} {t x : Int32} (h : SwM σ t x) (hf : FaM σ (Int32.toNatClampNeg t)) (hk : (σ.1 0 3).toInt ≤ 12) : x.toInt ≤ 4095 := by
  have l := toNat_lt2 hf.1.1.1 hf.1.1.2
  have : x.toInt.toNat < 2 ^ 12 := by
    apply Nat.lt_pow_two_of_testBit
    intro i hi
    cases e : x.toInt.toNat.testBit i
    · rfl
    · have := testBit_lt l (h.2.1 i e); omega
  have h1 := h.1
  omega
theorem pi_walk {g : Nat} (t0 : Int) : ∀ (n : Nat) (σ : S2) (x1 x2 x3 x4 : Int32), IvM g σ → 0 ≤ x1.toInt → x1.toInt ≤ 10 → 0 ≤ x2.toInt → x2.toInt ≤ 999 → 0 ≤ x4.toInt → x4.toInt ≤ 999 → (σ.1 0 9).toInt = t0 → (x1.toInt < t0 ∨ (x1.toInt = 10 ∧ g = 0)) → SwM σ x1 x3 → 12 - (σ.1 0 53).toInt < (n : Int) → Ok (fun z => IvM g z.2 ∧ (z.2.1 0 9).toInt = t0) (fX12_pick_10 n σ x1 x2 x3 x4) := by
  intro n
  induction n with
  | zero => intro σ x1 x2 x3 x4 hI a0 a1 b0 b1 c0 c1 ht hx hs hm; have : 0 ≤ (σ.1 0 53).toInt ∧ (σ.1 0 53).toInt ≤ 12 := hI.1 0 53; exfalso; omega
  | succ n ih =>
    intro σ x1 x2 x3 x4 hI a0 a1 b0 b1 c0 c1 ht hx hs hm
    have e1 := i32_nat a0
    have hf : FaM σ (Int32.toNatClampNeg x1) := hI.2.2.1 _ (by omega)
    have h3 : 0 ≤ (σ.1 0 3).toInt ∧ (σ.1 0 3).toInt ≤ 12 := hI.1 0 3
    have hle := hs.le (g := g) hf h3.2
    have h0 := hs.1
    have one : (1 : Int32).toInt = 1 := rfl
    have e333 : (333 : Int32).toInt = 333 := rfl
    have e1000 : (1000 : Int32).toInt = 1000 := rfl
    have step : ∀ (σ' : S2) (y4 : Int32), IvM g σ' → (σ'.1 0 9).toInt = t0 → PkM σ σ' x1 x3 → 0 ≤ y4.toInt → y4.toInt ≤ 999 → Ok (fun z => IvM g z.2 ∧ (z.2.1 0 9).toInt = t0) (fX12_pick_75 (fX12_pick_10 n) σ' x1 x2 x3 y4) := by
      intro σ' y4 hI' ht' hp y0 y1
      obtain ⟨k, hn, hv, h53, h8⟩ := hp
      have hc := pcM_lt hn.1 hn.2.2
      have hm3 := hs.2.2
      have k12 := hn.1
      have es : ((σ'.1 0 53) - 1).toInt = (σ.1 0 53).toInt := by rw [i32_sub (by omega) (by omega), one]; omega
      have es' : (σ'.1 0 53) - 1 = (σ.1 0 53) := Int32.toInt_inj.mp es
      unfold fX12_pick_75
      rw [es']
      refine ok_ck (by omega) (by omega) (ok_nmI (fun v1 _ ev => ok_nm (fun v2 h2 => ?_)))
      have ho := or_bit (x := x3) (v := v1) (k := k) h0 (by omega) k12
      rw [← h2] at ho
      refine ih σ' x1 x2 v2 y4 hI' a0 a1 b0 b1 y0 y1 ht' hx ⟨ho.1, fun j hj => ?_, ?_⟩ (by omega)
      · rw [h8]
        rw [ho.2 j] at hj
        by_cases q : j = k
        · subst q; exact hn.2.1
        · rw [decide_eq_false q, Bool.or_false] at hj; exact hs.2.1 j hj
      · rw [h53, hm3, pcM_or k12 hn.2.2 ho.2]
    unfold fX12_pick_10
    refine ok_ck (by omega) (by omega) (ok_nmI (fun v3 h3' ev3 => ?_))
    refine ok_eq (fun _ => ok_some ⟨hI, ht⟩) (fun hne => ?_)
    have hne' : x3.toInt ≠ (σ.1 8 (Int32.toNatClampNeg x1)).toInt := by rw [← ev3]; exact hne
    refine ok_ck (by omega) (by omega) (ok_nm (fun v4 _ => ?_))
    refine ok_eq (fun _ => ?_) (fun _ => ?_)
    · refine ok_bs (sX12_pickBest t0 σ x1 x2 x3 hI a0 a1 b0 b1 h0 hle ht hs hne' (by omega)) (fun r10 σ11 hr => ?_)
      exact step σ11 x4 hr.1 hr.2.1 hr.2.2 c0 c1
    · refine ok_bs (sX12_pickNext t0 σ x1 x4 x3 hI a0 a1 c0 c1 h0 hle ht hs hne' (by omega)) (fun r5 σ6 hr => ?_)
      refine ok_ck (by omega) (by omega) (ok_nm (fun v8 _ => ?_))
      unfold fX12_pick_73
      refine ok_eq (fun _ => ?_) (fun _ => step σ6 x4 hr.1 hr.2.1 hr.2.2 c0 c1)
      have ea : (x4 + 333).toInt = x4.toInt + 333 := by rw [i32_add (by omega) (by omega), e333]
      have er := i32_rem (a := x4 + 333) (b := 1000) e1000 (by omega) (by omega)
      exact ok_dz (by omega) (step σ6 _ hr.1 hr.2.1 hr.2.2 (by omega) (by omega))
theorem sX12_pick {g : Nat} (t0 : Int) (σ : S2) (a1 : Int32) (a2 : Int32) (hI : IvM g σ) (p9000 : 0 ≤ a1.toInt) (p9001 : a1.toInt ≤ 10) (p9002 : 0 ≤ a2.toInt) (p9003 : a2.toInt ≤ 999) (p9004 : (σ.1 0 9).toInt = t0) (p9005 : (a1.toInt < (σ.1 0 9).toInt ∨ (a1.toInt = 10 ∧ g = 0)))  : Ok (fun z => IvM g z.2 ∧ (z.2.1 0 9).toInt = t0) (fX12_pick σ a1 a2) := by
  have hFU : FU = 100000 := rfl
  have z0 : (0 : Int32).toInt = 0 := rfl
  unfold fX12_pick fX12_pick_0
  refine ok_nm (fun σ13 h13 => ?_)
  have e53 : (σ13.1 0 53).toInt = 0 := by rw [h13]; rfl
  have hI13 : IvM g σ13 := by rw [h13]; exact IvM.wI hI rfl (show (0 : Int) ≤ (0 : Int32).toInt by decide) (show (0 : Int32).toInt ≤ 12 by decide)
  refine pi_walk t0 FU σ13 a1 a2 0 a2 hI13 (by omega) (by omega) (by omega) (by omega) (by omega) (by omega) (by rw [h13]; assumption) (by omega) ⟨by decide, fun k hk => ?_, ?_⟩ (by omega)
  · rw [show (0 : Int32).toInt.toNat = 0 from rfl, Nat.zero_testBit] at hk; exact absurd hk (by decide)
  · rw [e53]; decide

theorem sX12_streetsOf_44 {g : Nat} : ∀ (n : Nat) (σ : S2) (x2 : Int32) (x3 : Int32) (x4 : Int32), IvM g σ → 0 ≤ x2.toInt → x2.toInt ≤ 63 → 0 ≤ x4.toInt → x4.toInt ≤ 6 → 6 - x4.toInt < (n : Int) → Ok (fun z => True) (fX12_streetsOf_44 n σ x2 x3 x4) := by
  have hFU : ((FU : Nat) : Int) = 100000 := rfl
  intro n
  induction n with
  | zero => intro σ x2 x3 x4 hI p9000 p9001 p9002 p9003 hm; exfalso; omega
  | succ n ih =>
    intro σ x2 x3 x4 hI p9000 p9001 p9002 p9003 hm
    unfold fX12_streetsOf_44
    have : (6 : Int32).toInt = 6 := by decide
    refine ok_le (fun h1 => ?_) (fun h1 => ?_)
    · have := i32_rng x3
      exact ok_some trivial
    · have := i32_rng x3
      have : (31 : Int32).toInt = 31 := by decide
      have := i32_andR (a := x4) (m := 31) (by omega)
      have := i32_andL (a := x4) (m := 31) (by omega)
      have := i32_sar (a := x2) (k := (x4 &&& 31)) (by omega)
      have : (1 : Int32).toInt = 1 := by decide
      have := i32_andR (a := (x2 >>> (x4 &&& 31))) (m := 1) (by omega)
      have := i32_rng (x3 + ((x2 >>> (x4 &&& 31)) &&& 1))
      refine ok_nmI (fun v1 hv1 he2 => ?_)
      have : ((x4 + 1) : Int32).toInt = (x4 : Int32).toInt + (1 : Int32).toInt := i32_add (by omega) (by omega)
      refine ok_nmI (fun v2 hv2 he3 => ?_)
      have := i32_rng v1
      exact ih σ x2 v1 v2 hI (by omega) (by omega) (by omega) (by omega) (by omega)

theorem sX12_streetsOf_4 {g : Nat} : ∀ (n : Nat) (σ : S2) (x1 : Int32) (x2 : Int32) (x3 : Int32), IvM g σ → 0 ≤ x1.toInt → x1.toInt ≤ 10 → 0 ≤ x2.toInt → x2.toInt ≤ 63 → 0 ≤ x3.toInt → x3.toInt ≤ 4 → 4 - x3.toInt < (n : Int) → Ok (fun z => True) (fX12_streetsOf_4 n σ x1 x2 x3) := by
  have hFU : ((FU : Nat) : Int) = 100000 := rfl
  intro n
  induction n with
  | zero => intro σ x1 x2 x3 hI p9000 p9001 p9002 p9003 p9004 p9005 hm; exfalso; omega
  | succ n ih =>
    intro σ x1 x2 x3 hI p9000 p9001 p9002 p9003 p9004 p9005 hm
    unfold fX12_streetsOf_4
    have : 0 ≤ (σ.1 0 55).toInt ∧ (σ.1 0 55).toInt ≤ 4 := hI.1 0 55
    refine ok_le (fun h1 => ?_) (fun h1 => ?_)
    · have : (0 : Int32).toInt = 0 := by decide
      exact sX12_streetsOf_44 FU σ x2 0 0 hI (by omega) (by omega) (by omega) (by omega) (by omega)
    · refine ok_ck (by omega) (by omega) ?_
      have : 0 ≤ (σ.1 36 (Int32.toNatClampNeg x3)).toInt ∧ (σ.1 36 (Int32.toNatClampNeg x3)).toInt ≤ 11 := hI.1 36 (Int32.toNatClampNeg x3)
      refine ok_nmI (fun v3 hv3 he2 => ?_)
      have : (12 : Int32).toInt = 12 := by decide
      have : ((12 * x1) : Int32).toInt = 12 * (x1 : Int32).toInt := i32_mulL (by omega) (by omega) (by omega)
      have : (((12 * x1) + v3) : Int32).toInt = ((12 * x1) : Int32).toInt + (v3 : Int32).toInt := i32_add (by omega) (by omega)
      refine ok_ck (by omega) (by omega) ?_
      have : 0 ≤ (σ.1 16 (Int32.toNatClampNeg ((12 * x1) + v3))).toInt ∧ (σ.1 16 (Int32.toNatClampNeg ((12 * x1) + v3))).toInt ≤ 5 := hI.1 16 (Int32.toNatClampNeg ((12 * x1) + v3))
      refine ok_nmI (fun v4 hv4 he3 => ?_)
      have : (1 : Int32).toInt = 1 := by decide
      have : (31 : Int32).toInt = 31 := by decide
      have := i32_andR (a := v4) (m := 31) (by omega)
      have := i32_andL (a := v4) (m := 31) (by omega)
      have : 1 ≤ ((1 <<< (v4 &&& 31)) : Int32).toInt ∧ ((1 <<< (v4 &&& 31)) : Int32).toInt ≤ 32 := i32_shlB 5 (by omega) (by omega) (by decide)
      have := i32_orB (a := x2) (b := (1 <<< (v4 &&& 31))) 6 63 (by decide) (by decide) (by omega) (by omega) (by omega) (by omega)
      refine ok_nmI (fun v5 hv5 he4 => ?_)
      have : ((x3 + 1) : Int32).toInt = (x3 : Int32).toInt + (1 : Int32).toInt := i32_add (by omega) (by omega)
      refine ok_nmI (fun v6 hv6 he5 => ?_)
      exact ih σ x1 v5 v6 hI (by omega) (by omega) (by omega) (by omega) (by omega) (by omega) (by omega)

theorem sX12_streetsOf_0 {g : Nat} (σ : S2) (x1 : Int32) (hI : IvM g σ) (p9000 : 0 ≤ x1.toInt) (p9001 : x1.toInt ≤ 10)  : Ok (fun z => True) (fX12_streetsOf_0 σ x1) := by
  have hFU : ((FU : Nat) : Int) = 100000 := rfl
  unfold fX12_streetsOf_0
  have : (0 : Int32).toInt = 0 := by decide
  exact sX12_streetsOf_4 FU σ x1 0 0 hI (by omega) (by omega) (by omega) (by omega) (by omega) (by omega) (by omega)

theorem sX12_streetsOf {g : Nat} (σ : S2) (a1 : Int32) (hI : IvM g σ) (p9000 : 0 ≤ a1.toInt) (p9001 : a1.toInt ≤ 10)  : Ok (fun z => True) (fX12_streetsOf σ a1) := by
  unfold fX12_streetsOf
  exact sX12_streetsOf_0 σ a1 hI (by assumption) (by assumption)

theorem sX12_isChosen_2 {g : Nat} : ∀ (n : Nat) (σ : S2) (x1 : Int32) (x2 : Int32), IvM g σ → 0 ≤ x1.toInt → x1.toInt ≤ 11 → 0 ≤ x2.toInt → x2.toInt ≤ 4 → 4 - x2.toInt < (n : Int) → Ok (fun z => 0 ≤ z.toInt ∧ z.toInt ≤ 1) (fX12_isChosen_2 n σ x1 x2) := by
  have hFU : ((FU : Nat) : Int) = 100000 := rfl
  intro n
  induction n with
  | zero => intro σ x1 x2 hI p9000 p9001 p9002 p9003 hm; exfalso; omega
  | succ n ih =>
    intro σ x1 x2 hI p9000 p9001 p9002 p9003 hm
    unfold fX12_isChosen_2
    have : 0 ≤ (σ.1 0 55).toInt ∧ (σ.1 0 55).toInt ≤ 4 := hI.1 0 55
    refine ok_le (fun h1 => ?_) (fun h1 => ?_)
    · have : (0 : Int32).toInt = 0 := by decide
      exact ok_some ⟨by show 0 ≤ (0 : Int32).toInt; omega, by show (0 : Int32).toInt ≤ 1; omega⟩
    · refine ok_ck (by omega) (by omega) ?_
      have : 0 ≤ (σ.1 36 (Int32.toNatClampNeg x2)).toInt ∧ (σ.1 36 (Int32.toNatClampNeg x2)).toInt ≤ 11 := hI.1 36 (Int32.toNatClampNeg x2)
      refine ok_nmI (fun v1 hv1 he2 => ?_)
      refine ok_eq (fun h3 => ?_) (fun h3 => ?_)
      · have : (1 : Int32).toInt = 1 := by decide
        exact ok_some ⟨by show 0 ≤ (1 : Int32).toInt; omega, by show (1 : Int32).toInt ≤ 1; omega⟩
      · have : (1 : Int32).toInt = 1 := by decide
        have : ((x2 + 1) : Int32).toInt = (x2 : Int32).toInt + (1 : Int32).toInt := i32_add (by omega) (by omega)
        refine ok_nmI (fun v2 hv2 he4 => ?_)
        exact ih σ x1 v2 hI (by omega) (by omega) (by omega) (by omega) (by omega)

theorem sX12_isChosen_0 {g : Nat} (σ : S2) (x1 : Int32) (hI : IvM g σ) (p9000 : 0 ≤ x1.toInt) (p9001 : x1.toInt ≤ 11)  : Ok (fun z => 0 ≤ z.toInt ∧ z.toInt ≤ 1) (fX12_isChosen_0 σ x1) := by
  have hFU : ((FU : Nat) : Int) = 100000 := rfl
  unfold fX12_isChosen_0
  have : (0 : Int32).toInt = 0 := by decide
  exact sX12_isChosen_2 FU σ x1 0 hI (by omega) (by omega) (by omega) (by omega) (by omega)

theorem sX12_isChosen {g : Nat} (σ : S2) (a1 : Int32) (hI : IvM g σ) (p9000 : 0 ≤ a1.toInt) (p9001 : a1.toInt ≤ 11)  : Ok (fun z => 0 ≤ z.toInt ∧ z.toInt ≤ 1) (fX12_isChosen σ a1) := by
  unfold fX12_isChosen
  exact sX12_isChosen_0 σ a1 hI (by assumption) (by assumption)

theorem sX12_choose_146 {g : Nat} (t0 : Int) (k21 : S2 → Int32 → Int32 → Int32 → Option (Unit × S2)) (σ : S2) (x1 : Int32) (x3 : Int32) (x4 : Int32) (hI : IvM g σ) (p9000 : 0 ≤ x1.toInt) (p9001 : x1.toInt ≤ 10) (p9002 : 0 ≤ x3.toInt) (p9003 : x3.toInt ≤ 1) (p9004 : 0 ≤ x4.toInt) (p9005 : x4.toInt ≤ 11) (p9006 : (σ.1 0 9).toInt = t0) (hk21 : ∀ (y0 : S2) (y1 : Int32) (y2 : Int32) (y3 : Int32), IvM g y0 → 0 ≤ y1.toInt → y1.toInt ≤ 10 → 0 ≤ y2.toInt → y2.toInt ≤ 1 → 0 ≤ y3.toInt → y3.toInt ≤ 12 → (y0.1 0 9).toInt = t0 → x4.toInt + 1 ≤ y3.toInt → x3.toInt ≤ y2.toInt → Ok (fun z => IvM g z.2 ∧ (z.2.1 0 9).toInt = t0) (k21 y0 y1 y2 y3)) : Ok (fun z => IvM g z.2 ∧ (z.2.1 0 9).toInt = t0) (fX12_choose_146 k21 σ x1 x3 x4) := by
  have hFU : ((FU : Nat) : Int) = 100000 := rfl
  unfold fX12_choose_146
  have : (1 : Int32).toInt = 1 := by decide
  have : ((x4 + 1) : Int32).toInt = (x4 : Int32).toInt + (1 : Int32).toInt := i32_add (by omega) (by omega)
  refine ok_nmI (fun v1 hv1 he1 => ?_)
  have : 0 ≤ (σ.1 0 9).toInt ∧ (σ.1 0 9).toInt ≤ 10 := hI.1 0 9
  exact hk21 σ x1 x3 v1 hI (by omega) (by omega) (by omega) (by omega) (by omega) (by omega) (by omega) (by omega) (by omega)

theorem sX12_choose_142 {g : Nat} (t0 : Int) (k21 : S2 → Int32 → Int32 → Int32 → Option (Unit × S2)) (σ : S2) (x1 : Int32) (x3 : Int32) (x4 : Int32) (s0 : Int32) (s1 : Int32) (hI : IvM g σ) (p9000 : 0 ≤ x1.toInt) (p9001 : x1.toInt ≤ 10) (p9002 : 0 ≤ x3.toInt) (p9003 : x3.toInt ≤ 1) (p9004 : 0 ≤ x4.toInt) (p9005 : x4.toInt ≤ 11) (p9006 : 0 ≤ s0.toInt) (p9007 : s0.toInt ≤ 1) (p9008 : 1 ≤ s1.toInt) (p9009 : s1.toInt ≤ 4) (p9010 : (σ.1 0 9).toInt = t0) (hk21 : ∀ (y0 : S2) (y1 : Int32) (y2 : Int32) (y3 : Int32), IvM g y0 → 0 ≤ y1.toInt → y1.toInt ≤ 10 → 0 ≤ y2.toInt → y2.toInt ≤ 1 → 0 ≤ y3.toInt → y3.toInt ≤ 12 → (y0.1 0 9).toInt = t0 → x4.toInt + 1 ≤ y3.toInt → x3.toInt ≤ y2.toInt → Ok (fun z => IvM g z.2 ∧ (z.2.1 0 9).toInt = t0) (k21 y0 y1 y2 y3)) : Ok (fun z => IvM g z.2 ∧ (z.2.1 0 9).toInt = t0) (fX12_choose_142 k21 σ x1 x3 x4 s0 s1) := by
  have hFU : ((FU : Nat) : Int) = 100000 := rfl
  unfold fX12_choose_142
  have : ((s1 - s0) : Int32).toInt = (s1 : Int32).toInt - (s0 : Int32).toInt := i32_sub (by omega) (by omega)
  refine ok_nm (fun σ2 hs1 => ?_)
  have hI2 : IvM g σ2 := by rw [hs1]; exact IvM.wI hI rfl (show 0 ≤ ((s1 - s0) : Int32).toInt by omega) (show ((s1 - s0) : Int32).toInt ≤ 4 by omega)
  have : (σ2.1 0 9).toInt = (σ.1 0 9).toInt := by rw [hs1]; rfl
  have : 0 ≤ (σ2.1 0 9).toInt ∧ (σ2.1 0 9).toInt ≤ 10 := hI2.1 0 9
  exact sX12_choose_146 t0 k21 σ2 x1 x3 x4 hI2 (by omega) (by omega) (by omega) (by omega) (by omega) (by omega) (by omega) (fun y0 y1 y2 y3 q0 q1 q2 q3 q4 q5 q6 q7 q8 q9 => hk21 y0 y1 y2 y3 q0 q1 q2 q3 q4 q5 q6 q7 (by omega) (by omega))

theorem sX12_choose_141 {g : Nat} (t0 : Int) (k21 : S2 → Int32 → Int32 → Int32 → Option (Unit × S2)) (σ : S2) (x1 : Int32) (x3 : Int32) (x4 : Int32) (s0 : Int32) (hI : IvM g σ) (p9000 : 0 ≤ x1.toInt) (p9001 : x1.toInt ≤ 10) (p9002 : 0 ≤ x3.toInt) (p9003 : x3.toInt ≤ 1) (p9004 : 0 ≤ x4.toInt) (p9005 : x4.toInt ≤ 11) (p9006 : 1 ≤ s0.toInt) (p9007 : s0.toInt ≤ 4) (p9008 : (σ.1 0 9).toInt = t0) (hk21 : ∀ (y0 : S2) (y1 : Int32) (y2 : Int32) (y3 : Int32), IvM g y0 → 0 ≤ y1.toInt → y1.toInt ≤ 10 → 0 ≤ y2.toInt → y2.toInt ≤ 1 → 0 ≤ y3.toInt → y3.toInt ≤ 12 → (y0.1 0 9).toInt = t0 → x4.toInt + 1 ≤ y3.toInt → x3.toInt ≤ y2.toInt → Ok (fun z => IvM g z.2 ∧ (z.2.1 0 9).toInt = t0) (k21 y0 y1 y2 y3)) : Ok (fun z => IvM g z.2 ∧ (z.2.1 0 9).toInt = t0) (fX12_choose_141 k21 σ x1 x3 x4 s0) := by
  have hFU : ((FU : Nat) : Int) = 100000 := rfl
  unfold fX12_choose_141
  have : (0 : Int32).toInt = 0 := by decide
  have : 0 ≤ (σ.1 0 9).toInt ∧ (σ.1 0 9).toInt ≤ 10 := hI.1 0 9
  exact sX12_choose_142 t0 k21 σ x1 x3 x4 0 s0 hI (by omega) (by omega) (by omega) (by omega) (by omega) (by omega) (by omega) (by omega) (by omega) (by omega) (by omega) (fun y0 y1 y2 y3 q0 q1 q2 q3 q4 q5 q6 q7 q8 q9 => hk21 y0 y1 y2 y3 q0 q1 q2 q3 q4 q5 q6 q7 (by omega) (by omega))

theorem sX12_choose_85 {g : Nat} (t0 : Int) (k21 : S2 → Int32 → Int32 → Int32 → Option (Unit × S2)) (σ : S2) (x1 : Int32) (x3 : Int32) (x4 : Int32) (x5 : Int32) (s0 : Int32) (hI : IvM g σ) (p9000 : 0 ≤ x1.toInt) (p9001 : x1.toInt ≤ 10) (p9002 : 0 ≤ x3.toInt) (p9003 : x3.toInt ≤ 1) (p9004 : 0 ≤ x4.toInt) (p9005 : x4.toInt ≤ 11) (p9006 : 0 ≤ s0.toInt) (p9007 : s0.toInt ≤ 1) (p9008 : (σ.1 0 9).toInt = t0) (p9009 : (s0.toInt = 0 ∨ (σ.1 0 55).toInt ≤ 3)) (hk21 : ∀ (y0 : S2) (y1 : Int32) (y2 : Int32) (y3 : Int32), IvM g y0 → 0 ≤ y1.toInt → y1.toInt ≤ 10 → 0 ≤ y2.toInt → y2.toInt ≤ 1 → 0 ≤ y3.toInt → y3.toInt ≤ 12 → (y0.1 0 9).toInt = t0 → x4.toInt + 1 ≤ y3.toInt → x3.toInt ≤ y2.toInt → Ok (fun z => IvM g z.2 ∧ (z.2.1 0 9).toInt = t0) (k21 y0 y1 y2 y3)) : Ok (fun z => IvM g z.2 ∧ (z.2.1 0 9).toInt = t0) (fX12_choose_85 k21 σ x1 x3 x4 x5 s0) := by
  have hFU : ((FU : Nat) : Int) = 100000 := rfl
  unfold fX12_choose_85
  have : (0 : Int32).toInt = 0 := by decide
  refine ok_eq (fun h1 => ?_) (fun h1 => ?_)
  · have : 0 ≤ (σ.1 0 9).toInt ∧ (σ.1 0 9).toInt ≤ 10 := hI.1 0 9
    exact sX12_choose_146 t0 k21 σ x1 x3 x4 hI (by omega) (by omega) (by omega) (by omega) (by omega) (by omega) (by omega) (fun y0 y1 y2 y3 q0 q1 q2 q3 q4 q5 q6 q7 q8 q9 => hk21 y0 y1 y2 y3 q0 q1 q2 q3 q4 q5 q6 q7 (by omega) (by omega))
  · refine ok_ck (by omega) (by omega) ?_
    have : 0 ≤ (σ.1 35 (Int32.toNatClampNeg x4)).toInt ∧ (σ.1 35 (Int32.toNatClampNeg x4)).toInt ≤ 11 := hI.1 35 (Int32.toNatClampNeg x4)
    refine ok_nmI (fun v3 hv3 he2 => ?_)
    have : 0 ≤ (σ.1 0 55).toInt ∧ (σ.1 0 55).toInt ≤ 4 := hI.1 0 55
    refine ok_ck (by omega) (by omega) ?_
    refine ok_nm (fun σ4 hs3 => ?_)
    have hI4 : IvM g σ4 := by rw [hs3]; exact IvM.wI hI rfl (show 0 ≤ (v3 : Int32).toInt by omega) (show (v3 : Int32).toInt ≤ 11 by omega)
    have : (σ4.1 0 9).toInt = (σ.1 0 9).toInt := by rw [hs3]; rfl
    have : (σ4.1 0 55).toInt = (σ.1 0 55).toInt := by rw [hs3]; rfl
    have : 0 ≤ (σ4.1 0 55).toInt ∧ (σ4.1 0 55).toInt ≤ 4 := hI4.1 0 55
    have : (1 : Int32).toInt = 1 := by decide
    have : (((σ4.1 0 55) + 1) : Int32).toInt = ((σ4.1 0 55) : Int32).toInt + (1 : Int32).toInt := i32_add (by omega) (by omega)
    refine ok_nm (fun σ5 hs5 => ?_)
    have hI6 : IvM g σ5 := by rw [hs5]; exact IvM.wI hI4 rfl (show 0 ≤ (((σ4.1 0 55) + 1) : Int32).toInt by omega) (show (((σ4.1 0 55) + 1) : Int32).toInt ≤ 4 by omega)
    have : (σ5.1 0 9).toInt = (σ4.1 0 9).toInt := by rw [hs5]; rfl
    have : (σ5.1 0 55).toInt = (((σ4.1 0 55) + 1) : Int32).toInt := by rw [hs5]; rfl
    refine ok_eq (fun h7 => ?_) (fun h7 => ?_)
    · refine ok_bi (sX12_streetsOf σ5 x1 hI6 (by omega) (by omega)) (fun r6 hr8 => ?_)
      have := i32_rng r6
      have := i32_rng x5
      refine ok_eq (fun h9 => ?_) (fun h9 => ?_)
      · have : 0 ≤ (σ5.1 0 55).toInt ∧ (σ5.1 0 55).toInt ≤ 4 := hI6.1 0 55
        have : 0 ≤ (σ5.1 0 9).toInt ∧ (σ5.1 0 9).toInt ≤ 10 := hI6.1 0 9
        exact sX12_choose_142 t0 k21 σ5 x1 x3 x4 1 (σ5.1 0 55) hI6 (by omega) (by omega) (by omega) (by omega) (by omega) (by omega) (by omega) (by omega) (by omega) (by omega) (by omega) (fun y0 y1 y2 y3 q0 q1 q2 q3 q4 q5 q6 q7 q8 q9 => hk21 y0 y1 y2 y3 q0 q1 q2 q3 q4 q5 q6 q7 (by omega) (by omega))
      · have : 0 ≤ (σ5.1 0 55).toInt ∧ (σ5.1 0 55).toInt ≤ 4 := hI6.1 0 55
        have : 0 ≤ (σ5.1 0 9).toInt ∧ (σ5.1 0 9).toInt ≤ 10 := hI6.1 0 9
        exact sX12_choose_141 t0 k21 σ5 x1 x3 x4 (σ5.1 0 55) hI6 (by omega) (by omega) (by omega) (by omega) (by omega) (by omega) (by omega) (by omega) (by omega) (fun y0 y1 y2 y3 q0 q1 q2 q3 q4 q5 q6 q7 q8 q9 => hk21 y0 y1 y2 y3 q0 q1 q2 q3 q4 q5 q6 q7 (by omega) (by omega))
    · have : 0 ≤ (σ5.1 0 55).toInt ∧ (σ5.1 0 55).toInt ≤ 4 := hI6.1 0 55
      have : 0 ≤ (σ5.1 0 9).toInt ∧ (σ5.1 0 9).toInt ≤ 10 := hI6.1 0 9
      exact sX12_choose_141 t0 k21 σ5 x1 x3 x4 (σ5.1 0 55) hI6 (by omega) (by omega) (by omega) (by omega) (by omega) (by omega) (by omega) (by omega) (by omega) (fun y0 y1 y2 y3 q0 q1 q2 q3 q4 q5 q6 q7 q8 q9 => hk21 y0 y1 y2 y3 q0 q1 q2 q3 q4 q5 q6 q7 (by omega) (by omega))

theorem sX12_choose_84 {g : Nat} (t0 : Int) (k21 : S2 → Int32 → Int32 → Int32 → Option (Unit × S2)) (σ : S2) (x1 : Int32) (x3 : Int32) (x4 : Int32) (x5 : Int32) (hI : IvM g σ) (p9000 : 0 ≤ x1.toInt) (p9001 : x1.toInt ≤ 10) (p9002 : 0 ≤ x3.toInt) (p9003 : x3.toInt ≤ 1) (p9004 : 0 ≤ x4.toInt) (p9005 : x4.toInt ≤ 11) (p9006 : (σ.1 0 9).toInt = t0) (hk21 : ∀ (y0 : S2) (y1 : Int32) (y2 : Int32) (y3 : Int32), IvM g y0 → 0 ≤ y1.toInt → y1.toInt ≤ 10 → 0 ≤ y2.toInt → y2.toInt ≤ 1 → 0 ≤ y3.toInt → y3.toInt ≤ 12 → (y0.1 0 9).toInt = t0 → x4.toInt + 1 ≤ y3.toInt → x3.toInt ≤ y2.toInt → Ok (fun z => IvM g z.2 ∧ (z.2.1 0 9).toInt = t0) (k21 y0 y1 y2 y3)) : Ok (fun z => IvM g z.2 ∧ (z.2.1 0 9).toInt = t0) (fX12_choose_84 k21 σ x1 x3 x4 x5) := by
  have hFU : ((FU : Nat) : Int) = 100000 := rfl
  unfold fX12_choose_84
  have := i32_rng x5
  have : (0 : Int32).toInt = 0 := by decide
  have : 0 ≤ (σ.1 0 9).toInt ∧ (σ.1 0 9).toInt ≤ 10 := hI.1 0 9
  exact sX12_choose_85 t0 k21 σ x1 x3 x4 x5 0 hI (by omega) (by omega) (by omega) (by omega) (by omega) (by omega) (by omega) (by omega) (by omega) (by omega) (fun y0 y1 y2 y3 q0 q1 q2 q3 q4 q5 q6 q7 q8 q9 => hk21 y0 y1 y2 y3 q0 q1 q2 q3 q4 q5 q6 q7 (by omega) (by omega))

theorem sX12_choose_80 {g : Nat} (t0 : Int) (k21 : S2 → Int32 → Int32 → Int32 → Option (Unit × S2)) (σ : S2) (x1 : Int32) (x3 : Int32) (x4 : Int32) (x5 : Int32) (hI : IvM g σ) (p9000 : 0 ≤ x1.toInt) (p9001 : x1.toInt ≤ 10) (p9002 : 0 ≤ x3.toInt) (p9003 : x3.toInt ≤ 1) (p9004 : 0 ≤ x4.toInt) (p9005 : x4.toInt ≤ 11) (p9006 : (σ.1 0 9).toInt = t0) (p9007 : (σ.1 0 55).toInt ≤ 3) (hk21 : ∀ (y0 : S2) (y1 : Int32) (y2 : Int32) (y3 : Int32), IvM g y0 → 0 ≤ y1.toInt → y1.toInt ≤ 10 → 0 ≤ y2.toInt → y2.toInt ≤ 1 → 0 ≤ y3.toInt → y3.toInt ≤ 12 → (y0.1 0 9).toInt = t0 → x4.toInt + 1 ≤ y3.toInt → x3.toInt ≤ y2.toInt → Ok (fun z => IvM g z.2 ∧ (z.2.1 0 9).toInt = t0) (k21 y0 y1 y2 y3)) : Ok (fun z => IvM g z.2 ∧ (z.2.1 0 9).toInt = t0) (fX12_choose_80 k21 σ x1 x3 x4 x5) := by
  have hFU : ((FU : Nat) : Int) = 100000 := rfl
  unfold fX12_choose_80
  have := i32_rng x5
  have : (1 : Int32).toInt = 1 := by decide
  have : 0 ≤ (σ.1 0 9).toInt ∧ (σ.1 0 9).toInt ≤ 10 := hI.1 0 9
  exact sX12_choose_85 t0 k21 σ x1 x3 x4 x5 1 hI (by omega) (by omega) (by omega) (by omega) (by omega) (by omega) (by omega) (by omega) (by omega) (by omega) (fun y0 y1 y2 y3 q0 q1 q2 q3 q4 q5 q6 q7 q8 q9 => hk21 y0 y1 y2 y3 q0 q1 q2 q3 q4 q5 q6 q7 (by omega) (by omega))

theorem sX12_choose_21 {g : Nat} (t0 : Int) (k13 : S2 → Int32 → Int32 → Option (Unit × S2)) : ∀ (n : Nat) (σ : S2) (x1 : Int32) (x3 : Int32) (x4 : Int32), IvM g σ → 0 ≤ x1.toInt → x1.toInt ≤ 10 → 0 ≤ x3.toInt → x3.toInt ≤ 1 → 0 ≤ x4.toInt → x4.toInt ≤ 12 → (σ.1 0 9).toInt = t0 → 12 - x4.toInt < (n : Int) → (∀ (y0 : S2) (y1 : Int32) (y2 : Int32), IvM g y0 → 0 ≤ y1.toInt → y1.toInt ≤ 10 → 0 ≤ y2.toInt → y2.toInt ≤ 2 → (y0.1 0 9).toInt = t0 → x3.toInt + 1 ≤ y2.toInt → Ok (fun z => IvM g z.2 ∧ (z.2.1 0 9).toInt = t0) (k13 y0 y1 y2)) → Ok (fun z => IvM g z.2 ∧ (z.2.1 0 9).toInt = t0) (fX12_choose_21 k13 n σ x1 x3 x4) := by
  have hFU : ((FU : Nat) : Int) = 100000 := rfl
  intro n
  induction n with
  | zero => intro σ x1 x3 x4 hI p9000 p9001 p9002 p9003 p9004 p9005 p9006 hm hk13; exfalso; omega
  | succ n ih =>
    intro σ x1 x3 x4 hI p9000 p9001 p9002 p9003 p9004 p9005 p9006 hm hk13
    unfold fX12_choose_21
    have : 0 ≤ (σ.1 0 53).toInt ∧ (σ.1 0 53).toInt ≤ 12 := hI.1 0 53
    refine ok_le (fun h1 => ?_) (fun h1 => ?_)
    · have : (1 : Int32).toInt = 1 := by decide
      have : ((x3 + 1) : Int32).toInt = (x3 : Int32).toInt + (1 : Int32).toInt := i32_add (by omega) (by omega)
      refine ok_nmI (fun v8 hv8 he2 => ?_)
      have : 0 ≤ (σ.1 0 9).toInt ∧ (σ.1 0 9).toInt ≤ 10 := hI.1 0 9
      exact hk13 σ x1 v8 hI (by omega) (by omega) (by omega) (by omega) (by omega) (by omega)
    · refine ok_bi (sX12_streetsOf σ x1 hI (by omega) (by omega)) (fun r9 hr3 => ?_)
      refine ok_ck (by omega) (by omega) ?_
      have : 0 ≤ (σ.1 10 (Int32.toNatClampNeg x1)).toInt ∧ (σ.1 10 (Int32.toNatClampNeg x1)).toInt ≤ 4 := hI.1 10 (Int32.toNatClampNeg x1)
      refine ok_nmI (fun v11 hv11 he4 => ?_)
      have : 0 ≤ (σ.1 0 55).toInt ∧ (σ.1 0 55).toInt ≤ 4 := hI.1 0 55
      refine ok_le (fun h5 => ?_) (fun h5 => ?_)
      · have := i32_rng r9
        have : 0 ≤ (σ.1 0 9).toInt ∧ (σ.1 0 9).toInt ≤ 10 := hI.1 0 9
        exact sX12_choose_84 t0 (fX12_choose_21 k13 n) σ x1 x3 x4 r9 hI (by omega) (by omega) (by omega) (by omega) (by omega) (by omega) (by omega) (fun y0 y1 y2 y3 q0 q1 q2 q3 q4 q5 q6 q7 q8 q9 => ih y0 y1 y2 y3 q0 q1 q2 q3 q4 q5 q6 q7 (by omega) (fun z0 z1 z2 w0 w1 w2 w3 w4 w5 w6 => hk13 z0 z1 z2 w0 w1 w2 w3 w4 w5 (by omega)))
      · refine ok_ck (by omega) (by omega) ?_
        have : 0 ≤ (σ.1 35 (Int32.toNatClampNeg x4)).toInt ∧ (σ.1 35 (Int32.toNatClampNeg x4)).toInt ≤ 11 := hI.1 35 (Int32.toNatClampNeg x4)
        refine ok_nmI (fun v12 hv12 he6 => ?_)
        refine ok_bi (sX12_isChosen σ v12 hI (by omega) (by omega)) (fun r13 hr7 => ?_)
        obtain ⟨p8, p9⟩ := hr7
        have p8 : 0 ≤ r13.toInt := p8
        have p9 : r13.toInt ≤ 1 := p9
        have : (0 : Int32).toInt = 0 := by decide
        refine ok_eq (fun h10 => ?_) (fun h10 => ?_)
        · have : (1 : Int32).toInt = 1 := by decide
          refine ok_eq (fun h11 => ?_) (fun h11 => ?_)
          · have := i32_rng r9
            have : 0 ≤ (σ.1 0 9).toInt ∧ (σ.1 0 9).toInt ≤ 10 := hI.1 0 9
            exact sX12_choose_80 t0 (fX12_choose_21 k13 n) σ x1 x3 x4 r9 hI (by omega) (by omega) (by omega) (by omega) (by omega) (by omega) (by omega) (by omega) (fun y0 y1 y2 y3 q0 q1 q2 q3 q4 q5 q6 q7 q8 q9 => ih y0 y1 y2 y3 q0 q1 q2 q3 q4 q5 q6 q7 (by omega) (fun z0 z1 z2 w0 w1 w2 w3 w4 w5 w6 => hk13 z0 z1 z2 w0 w1 w2 w3 w4 w5 (by omega)))
          · refine ok_ck (by omega) (by omega) ?_
            have : 0 ≤ (σ.1 11 (Int32.toNatClampNeg x1)).toInt ∧ (σ.1 11 (Int32.toNatClampNeg x1)).toInt ≤ 4 := hI.1 11 (Int32.toNatClampNeg x1)
            refine ok_nmI (fun v15 hv15 he12 => ?_)
            have := i32_rng r9
            refine ok_le (fun h13 => ?_) (fun h13 => ?_)
            · have : 0 ≤ (σ.1 0 9).toInt ∧ (σ.1 0 9).toInt ≤ 10 := hI.1 0 9
              exact sX12_choose_84 t0 (fX12_choose_21 k13 n) σ x1 x3 x4 r9 hI (by omega) (by omega) (by omega) (by omega) (by omega) (by omega) (by omega) (fun y0 y1 y2 y3 q0 q1 q2 q3 q4 q5 q6 q7 q8 q9 => ih y0 y1 y2 y3 q0 q1 q2 q3 q4 q5 q6 q7 (by omega) (fun z0 z1 z2 w0 w1 w2 w3 w4 w5 w6 => hk13 z0 z1 z2 w0 w1 w2 w3 w4 w5 (by omega)))
            · have : 0 ≤ (σ.1 0 9).toInt ∧ (σ.1 0 9).toInt ≤ 10 := hI.1 0 9
              exact sX12_choose_80 t0 (fX12_choose_21 k13 n) σ x1 x3 x4 r9 hI (by omega) (by omega) (by omega) (by omega) (by omega) (by omega) (by omega) (by omega) (fun y0 y1 y2 y3 q0 q1 q2 q3 q4 q5 q6 q7 q8 q9 => ih y0 y1 y2 y3 q0 q1 q2 q3 q4 q5 q6 q7 (by omega) (fun z0 z1 z2 w0 w1 w2 w3 w4 w5 w6 => hk13 z0 z1 z2 w0 w1 w2 w3 w4 w5 (by omega)))
        · have := i32_rng r9
          have : 0 ≤ (σ.1 0 9).toInt ∧ (σ.1 0 9).toInt ≤ 10 := hI.1 0 9
          exact sX12_choose_84 t0 (fX12_choose_21 k13 n) σ x1 x3 x4 r9 hI (by omega) (by omega) (by omega) (by omega) (by omega) (by omega) (by omega) (fun y0 y1 y2 y3 q0 q1 q2 q3 q4 q5 q6 q7 q8 q9 => ih y0 y1 y2 y3 q0 q1 q2 q3 q4 q5 q6 q7 (by omega) (fun z0 z1 z2 w0 w1 w2 w3 w4 w5 w6 => hk13 z0 z1 z2 w0 w1 w2 w3 w4 w5 (by omega)))

theorem sX12_choose_13 {g : Nat} (t0 : Int) : ∀ (n : Nat) (σ : S2) (x1 : Int32) (x3 : Int32), IvM g σ → 0 ≤ x1.toInt → x1.toInt ≤ 10 → 0 ≤ x3.toInt → x3.toInt ≤ 2 → (σ.1 0 9).toInt = t0 → 2 - x3.toInt < (n : Int) → Ok (fun z => IvM g z.2 ∧ (z.2.1 0 9).toInt = t0) (fX12_choose_13 n σ x1 x3) := by
  have hFU : ((FU : Nat) : Int) = 100000 := rfl
  intro n
  induction n with
  | zero => intro σ x1 x3 hI p9000 p9001 p9002 p9003 p9004 hm; exfalso; omega
  | succ n ih =>
    intro σ x1 x3 hI p9000 p9001 p9002 p9003 p9004 hm
    unfold fX12_choose_13
    have : (2 : Int32).toInt = 2 := by decide
    refine ok_le (fun h1 => ?_) (fun h1 => ?_)
    · exact ok_some ⟨hI, by show (σ.1 0 9).toInt = t0; omega⟩
    · have : (0 : Int32).toInt = 0 := by decide
      have : 0 ≤ (σ.1 0 9).toInt ∧ (σ.1 0 9).toInt ≤ 10 := hI.1 0 9
      exact sX12_choose_21 t0 (fX12_choose_13 n) FU σ x1 x3 0 hI (by omega) (by omega) (by omega) (by omega) (by omega) (by omega) (by omega) (by omega) (fun y0 y1 y2 q0 q1 q2 q3 q4 q5 q6 => ih y0 y1 y2 q0 q1 q2 q3 q4 q5 (by omega))

theorem sX12_choose_0 {g : Nat} (t0 : Int) (σ : S2) (x1 : Int32) (x2 : Int32) (hI : IvM g σ) (p9000 : 0 ≤ x1.toInt) (p9001 : x1.toInt ≤ 10) (p9002 : 0 ≤ x2.toInt) (p9003 : x2.toInt ≤ 999) (p9004 : (σ.1 0 9).toInt = t0) (p9005 : (x1.toInt < (σ.1 0 9).toInt ∨ (x1.toInt = 10 ∧ g = 0)))  : Ok (fun z => IvM g z.2 ∧ (z.2.1 0 9).toInt = t0) (fX12_choose_0 σ x1 x2) := by
  have hFU : ((FU : Nat) : Int) = 100000 := rfl
  unfold fX12_choose_0
  have : 0 ≤ (σ.1 0 9).toInt ∧ (σ.1 0 9).toInt ≤ 10 := hI.1 0 9
  refine ok_bs (sX12_pick (σ.1 0 9).toInt σ x1 x2 hI (by omega) (by omega) (by omega) (by omega) (by omega) (by omega)) (fun r16 σ17 hr1 => ?_)
  obtain ⟨p2, p3⟩ := hr1
  have p2 : IvM g σ17 := p2
  have p3 : (σ17.1 0 9).toInt = (σ.1 0 9).toInt := p3
  have : (0 : Int32).toInt = 0 := by decide
  refine ok_nm (fun σ19 hs4 => ?_)
  have hI5 : IvM g σ19 := by rw [hs4]; exact IvM.wI p2 rfl (show 0 ≤ (0 : Int32).toInt by omega) (show (0 : Int32).toInt ≤ 4 by omega)
  have : (σ19.1 0 9).toInt = (σ17.1 0 9).toInt := by rw [hs4]; rfl
  have : 0 ≤ (σ19.1 0 9).toInt ∧ (σ19.1 0 9).toInt ≤ 10 := hI5.1 0 9
  exact sX12_choose_13 t0 FU σ19 x1 0 hI5 (by omega) (by omega) (by omega) (by omega) (by omega) (by omega)

theorem sX12_choose {g : Nat} (t0 : Int) (σ : S2) (a1 : Int32) (a2 : Int32) (hI : IvM g σ) (p9000 : 0 ≤ a1.toInt) (p9001 : a1.toInt ≤ 10) (p9002 : 0 ≤ a2.toInt) (p9003 : a2.toInt ≤ 999) (p9004 : (σ.1 0 9).toInt = t0) (p9005 : (a1.toInt < (σ.1 0 9).toInt ∨ (a1.toInt = 10 ∧ g = 0)))  : Ok (fun z => IvM g z.2 ∧ (z.2.1 0 9).toInt = t0) (fX12_choose σ a1 a2) := by
  unfold fX12_choose
  exact sX12_choose_0 t0 σ a1 a2 hI (by assumption) (by assumption) (by assumption) (by assumption) (by assumption) (by assumption)

theorem sX12_chooseName_0 {g : Nat} (t0 : Int) (σ : S2) (x1 : Int32) (x2 : Int32) (hI : IvM g σ) (p9000 : 0 ≤ x1.toInt) (p9001 : x1.toInt ≤ 10) (p9002 : 0 ≤ x2.toInt) (p9003 : x2.toInt ≤ 39) (p9004 : (σ.1 0 9).toInt = t0) (p9005 : (x1.toInt < (σ.1 0 9).toInt ∨ (x1.toInt = 10 ∧ g = 0)))  : Ok (fun z => IvM g z.2 ∧ (z.2.1 0 9).toInt = t0) (fX12_chooseName_0 σ x1 x2) := by
  have hFU : ((FU : Nat) : Int) = 100000 := rfl
  unfold fX12_chooseName_0
  refine ok_ck (by omega) (by omega) ?_
  have := i32_rng (σ.1 9 (Int32.toNatClampNeg x1))
  refine ok_nmI (fun v1 hv1 he1 => ?_)
  have := i32_rng v1
  refine ok_bi (sX12_numberOf σ x2 v1 hI (by omega) (by omega)) (fun r2 hr2 => ?_)
  obtain ⟨p3, p4⟩ := hr2
  have p3 : 0 ≤ r2.toInt := p3
  have p4 : r2.toInt ≤ 999 := p4
  have : 0 ≤ (σ.1 0 9).toInt ∧ (σ.1 0 9).toInt ≤ 10 := hI.1 0 9
  refine ok_bs (sX12_choose (σ.1 0 9).toInt σ x1 r2 hI (by omega) (by omega) (by omega) (by omega) (by omega) (by omega)) (fun r4 σ5 hr5 => ?_)
  obtain ⟨p6, p7⟩ := hr5
  have p6 : IvM g σ5 := p6
  have p7 : (σ5.1 0 9).toInt = (σ.1 0 9).toInt := p7
  exact ok_some ⟨p6, by show (σ5.1 0 9).toInt = t0; omega⟩

theorem sX12_chooseName {g : Nat} (t0 : Int) (σ : S2) (a1 : Int32) (a2 : Int32) (hI : IvM g σ) (p9000 : 0 ≤ a1.toInt) (p9001 : a1.toInt ≤ 10) (p9002 : 0 ≤ a2.toInt) (p9003 : a2.toInt ≤ 39) (p9004 : (σ.1 0 9).toInt = t0) (p9005 : (a1.toInt < (σ.1 0 9).toInt ∨ (a1.toInt = 10 ∧ g = 0)))  : Ok (fun z => IvM g z.2 ∧ (z.2.1 0 9).toInt = t0) (fX12_chooseName σ a1 a2) := by
  unfold fX12_chooseName
  exact sX12_chooseName_0 t0 σ a1 a2 hI (by assumption) (by assumption) (by assumption) (by assumption) (by assumption) (by assumption)

theorem sX12_bits_4 {g : Nat} : ∀ (n : Nat) (σ : S2) (x1 : Int32) (x2 : Int32), IvM g σ → 0 ≤ x1.toInt → x1.toInt ≤ 4095 → 0 ≤ x2.toInt → x2.toInt ≤ 4 → 4 - x2.toInt < (n : Int) → Ok (fun z => 0 ≤ z.toInt ∧ z.toInt ≤ 4095) (fX12_bits_4 n σ x1 x2) := by
  have hFU : ((FU : Nat) : Int) = 100000 := rfl
  intro n
  induction n with
  | zero => intro σ x1 x2 hI p9000 p9001 p9002 p9003 hm; exfalso; omega
  | succ n ih =>
    intro σ x1 x2 hI p9000 p9001 p9002 p9003 hm
    unfold fX12_bits_4
    have : 0 ≤ (σ.1 0 55).toInt ∧ (σ.1 0 55).toInt ≤ 4 := hI.1 0 55
    refine ok_le (fun h1 => ?_) (fun h1 => ?_)
    · exact ok_some ⟨by show 0 ≤ x1.toInt; omega, by show x1.toInt ≤ 4095; omega⟩
    · refine ok_ck (by omega) (by omega) ?_
      have : 0 ≤ (σ.1 36 (Int32.toNatClampNeg x2)).toInt ∧ (σ.1 36 (Int32.toNatClampNeg x2)).toInt ≤ 11 := hI.1 36 (Int32.toNatClampNeg x2)
      refine ok_nmI (fun v1 hv1 he2 => ?_)
      have : (1 : Int32).toInt = 1 := by decide
      have : (31 : Int32).toInt = 31 := by decide
      have := i32_andR (a := v1) (m := 31) (by omega)
      have := i32_andL (a := v1) (m := 31) (by omega)
      have : 1 ≤ ((1 <<< (v1 &&& 31)) : Int32).toInt ∧ ((1 <<< (v1 &&& 31)) : Int32).toInt ≤ 2048 := i32_shlB 11 (by omega) (by omega) (by decide)
      have := i32_orB (a := x1) (b := (1 <<< (v1 &&& 31))) 12 4095 (by decide) (by decide) (by omega) (by omega) (by omega) (by omega)
      refine ok_nmI (fun v2 hv2 he3 => ?_)
      have : ((x2 + 1) : Int32).toInt = (x2 : Int32).toInt + (1 : Int32).toInt := i32_add (by omega) (by omega)
      refine ok_nmI (fun v3 hv3 he4 => ?_)
      exact ih σ v2 v3 hI (by omega) (by omega) (by omega) (by omega) (by omega)

theorem sX12_bits_0 {g : Nat} (σ : S2) (hI : IvM g σ)   : Ok (fun z => 0 ≤ z.toInt ∧ z.toInt ≤ 4095) (fX12_bits_0 σ) := by
  have hFU : ((FU : Nat) : Int) = 100000 := rfl
  unfold fX12_bits_0
  have : (0 : Int32).toInt = 0 := by decide
  exact sX12_bits_4 FU σ 0 0 hI (by omega) (by omega) (by omega) (by omega) (by omega)

theorem sX12_bits {g : Nat} (σ : S2) (hI : IvM g σ)   : Ok (fun z => 0 ≤ z.toInt ∧ z.toInt ≤ 4095) (fX12_bits σ) := by
  unfold fX12_bits
  exact sX12_bits_0 σ hI

theorem sX12_seat_19 {g : Nat} (σ : S2) (hI : IvM g σ)   : Ok (fun z => (-2) ≤ z.toInt ∧ z.toInt ≤ 11) (fX12_seat_19 σ) := by
  have hFU : ((FU : Nat) : Int) = 100000 := rfl
  unfold fX12_seat_19
  have : ((-1) : Int32).toInt = (-1) := by decide
  exact ok_some ⟨by show (-2) ≤ ((-1) : Int32).toInt; omega, by show ((-1) : Int32).toInt ≤ 11; omega⟩

theorem sX12_seat_0 {g : Nat} (σ : S2) (x1 : Int32) (x2 : Int32) (hI : IvM g σ)   : Ok (fun z => (-2) ≤ z.toInt ∧ z.toInt ≤ 11) (fX12_seat_0 σ x1 x2) := by
  have hFU : ((FU : Nat) : Int) = 100000 := rfl
  unfold fX12_seat_0
  have := i32_rng x1
  refine ok_bi (sX12_isTable σ x1 hI) (fun r1 hr1 => ?_)
  obtain ⟨p2, p3, p4⟩ := hr1
  have p2 : 0 ≤ r1.toInt := p2
  have p3 : r1.toInt ≤ 1 := p3
  have p4 : r1.toInt ≠ 0 → 0 ≤ x1.toInt ∧ x1.toInt < (σ.1 0 9).toInt := p4
  have : 0 ≤ (σ.1 0 9).toInt ∧ (σ.1 0 9).toInt ≤ 10 := hI.1 0 9
  have : (0 : Int32).toInt = 0 := by decide
  refine ok_eq (fun h5 => ?_) (fun h5 => ?_)
  · exact sX12_seat_19 σ hI
  · have := i32_rng x2
    have : (999 : Int32).toInt = 999 := by decide
    refine ok_bi (sX12_in σ x2 0 999 hI (by omega) (by omega) (by omega) (by omega)) (fun r3 hr6 => ?_)
    obtain ⟨p7, p8, p9⟩ := hr6
    have p7 : 0 ≤ r3.toInt := p7
    have p8 : r3.toInt ≤ 1 := p8
    have p9 : r3.toInt ≠ 0 → (0 : Int32).toInt ≤ x2.toInt ∧ x2.toInt ≤ (999 : Int32).toInt := p9
    refine ok_eq (fun h10 => ?_) (fun h10 => ?_)
    · exact sX12_seat_19 σ hI
    · have : (1000 : Int32).toInt = 1000 := by decide
      have : ((1000 * x1) : Int32).toInt = 1000 * (x1 : Int32).toInt := i32_mulL (by omega) (by omega) (by omega)
      have : (((1000 * x1) + x2) : Int32).toInt = ((1000 * x1) : Int32).toInt + (x2 : Int32).toInt := i32_add (by omega) (by omega)
      refine ok_ck (by omega) (by omega) ?_
      have : (-1) ≤ (σ.1 18 (Int32.toNatClampNeg ((1000 * x1) + x2))).toInt ∧ (σ.1 18 (Int32.toNatClampNeg ((1000 * x1) + x2))).toInt ≤ 11 := hI.1 18 (Int32.toNatClampNeg ((1000 * x1) + x2))
      refine ok_nmI (fun v5 hv5 he11 => ?_)
      have : ((-1) : Int32).toInt = (-1) := by decide
      refine ok_eq (fun h12 => ?_) (fun h12 => ?_)
      · have : ((-2) : Int32).toInt = (-2) := by decide
        exact ok_some ⟨by show (-2) ≤ ((-2) : Int32).toInt; omega, by show ((-2) : Int32).toInt ≤ 11; omega⟩
      · refine ok_ck (by omega) (by omega) ?_
        refine ok_nmI (fun v6 hv6 he13 => ?_)
        exact ok_some ⟨by show (-2) ≤ v6.toInt; omega, by show v6.toInt ≤ 11; omega⟩

theorem sX12_seat {g : Nat} (σ : S2) (a1 : Int32) (a2 : Int32) (hI : IvM g σ)   : Ok (fun z => (-2) ≤ z.toInt ∧ z.toInt ≤ 11) (fX12_seat σ a1 a2) := by
  unfold fX12_seat
  exact sX12_seat_0 σ a1 a2 hI

theorem sX12_picked_0 {g : Nat} (σ : S2) (x1 : Int32) (x2 : Int32) (x3 : Int32) (hI : IvM g σ)   : Ok (fun z => IvM g z.2 ∧ (-1) ≤ z.1.toInt ∧ z.1.toInt ≤ 11) (fX12_picked_0 σ x1 x2 x3) := by
  have hFU : ((FU : Nat) : Int) = 100000 := rfl
  unfold fX12_picked_0
  have := i32_rng x1
  refine ok_bi (sX12_isTable σ x1 hI) (fun r1 hr1 => ?_)
  obtain ⟨p2, p3, p4⟩ := hr1
  have p2 : 0 ≤ r1.toInt := p2
  have p3 : r1.toInt ≤ 1 := p3
  have p4 : r1.toInt ≠ 0 → 0 ≤ x1.toInt ∧ x1.toInt < (σ.1 0 9).toInt := p4
  have : 0 ≤ (σ.1 0 9).toInt ∧ (σ.1 0 9).toInt ≤ 10 := hI.1 0 9
  have : (0 : Int32).toInt = 0 := by decide
  refine ok_eq (fun h5 => ?_) (fun h5 => ?_)
  · have : ((-1) : Int32).toInt = (-1) := by decide
    exact ok_some ⟨hI, by show (-1) ≤ ((-1) : Int32).toInt; omega, by show ((-1) : Int32).toInt ≤ 11; omega⟩
  · have := i32_rng x2
    have : (999 : Int32).toInt = 999 := by decide
    refine ok_bi (sX12_in σ x2 0 999 hI (by omega) (by omega) (by omega) (by omega)) (fun r3 hr6 => ?_)
    obtain ⟨p7, p8, p9⟩ := hr6
    have p7 : 0 ≤ r3.toInt := p7
    have p8 : r3.toInt ≤ 1 := p8
    have p9 : r3.toInt ≠ 0 → (0 : Int32).toInt ≤ x2.toInt ∧ x2.toInt ≤ (999 : Int32).toInt := p9
    refine ok_eq (fun h10 => ?_) (fun h10 => ?_)
    · have : ((-1) : Int32).toInt = (-1) := by decide
      exact ok_some ⟨hI, by show (-1) ≤ ((-1) : Int32).toInt; omega, by show ((-1) : Int32).toInt ≤ 11; omega⟩
    · refine ok_bs (sX12_pick (σ.1 0 9).toInt σ x1 x2 hI (by omega) (by omega) (by omega) (by omega) (by omega) (by omega)) (fun r5 σ6 hr11 => ?_)
      obtain ⟨p12, p13⟩ := hr11
      have p12 : IvM g σ6 := p12
      have p13 : (σ6.1 0 9).toInt = (σ.1 0 9).toInt := p13
      have := i32_rng x3
      have : 0 ≤ (σ6.1 0 53).toInt ∧ (σ6.1 0 53).toInt ≤ 12 := p12.1 0 53
      have : (1 : Int32).toInt = 1 := by decide
      have : (((σ6.1 0 53) - 1) : Int32).toInt = ((σ6.1 0 53) : Int32).toInt - (1 : Int32).toInt := i32_sub (by omega) (by omega)
      refine ok_bi (sX12_in σ6 x3 0 ((σ6.1 0 53) - 1) p12 (by omega) (by omega) (by omega) (by omega)) (fun r8 hr14 => ?_)
      obtain ⟨p15, p16, p17⟩ := hr14
      have p15 : 0 ≤ r8.toInt := p15
      have p16 : r8.toInt ≤ 1 := p16
      have p17 : r8.toInt ≠ 0 → (0 : Int32).toInt ≤ x3.toInt ∧ x3.toInt ≤ ((σ6.1 0 53) - 1).toInt := p17
      refine ok_eq (fun h18 => ?_) (fun h18 => ?_)
      · have : ((-1) : Int32).toInt = (-1) := by decide
        exact ok_some ⟨p12, by show (-1) ≤ ((-1) : Int32).toInt; omega, by show ((-1) : Int32).toInt ≤ 11; omega⟩
      · refine ok_ck (by omega) (by omega) ?_
        have : 0 ≤ (σ6.1 35 (Int32.toNatClampNeg x3)).toInt ∧ (σ6.1 35 (Int32.toNatClampNeg x3)).toInt ≤ 11 := p12.1 35 (Int32.toNatClampNeg x3)
        refine ok_nmI (fun v10 hv10 he19 => ?_)
        exact ok_some ⟨p12, by show (-1) ≤ v10.toInt; omega, by show v10.toInt ≤ 11; omega⟩

theorem sX12_picked {g : Nat} (σ : S2) (a1 : Int32) (a2 : Int32) (a3 : Int32) (hI : IvM g σ)   : Ok (fun z => IvM g z.2 ∧ (-1) ≤ z.1.toInt ∧ z.1.toInt ≤ 11) (fX12_picked σ a1 a2 a3) := by
  unfold fX12_picked
  exact sX12_picked_0 σ a1 a2 a3 hI

theorem sX12_keeperOf_0 {g : Nat} (σ : S2) (x1 : Int32) (x2 : Int32) (x3 : Int32) (hI : IvM g σ)   : Ok (fun z => IvM g z.2 ∧ (-1) ≤ z.1.toInt ∧ z.1.toInt ≤ 11) (fX12_keeperOf_0 σ x1 x2 x3) := by
  have hFU : ((FU : Nat) : Int) = 100000 := rfl
  unfold fX12_keeperOf_0
  have := i32_rng x1
  refine ok_bi (sX12_isTable σ x1 hI) (fun r1 hr1 => ?_)
  obtain ⟨p2, p3, p4⟩ := hr1
  have p2 : 0 ≤ r1.toInt := p2
  have p3 : r1.toInt ≤ 1 := p3
  have p4 : r1.toInt ≠ 0 → 0 ≤ x1.toInt ∧ x1.toInt < (σ.1 0 9).toInt := p4
  have : 0 ≤ (σ.1 0 9).toInt ∧ (σ.1 0 9).toInt ≤ 10 := hI.1 0 9
  have : (0 : Int32).toInt = 0 := by decide
  refine ok_eq (fun h5 => ?_) (fun h5 => ?_)
  · have : ((-1) : Int32).toInt = (-1) := by decide
    exact ok_some ⟨hI, by show (-1) ≤ ((-1) : Int32).toInt; omega, by show ((-1) : Int32).toInt ≤ 11; omega⟩
  · have := i32_rng x2
    refine ok_bi (sX12_isName σ x2 hI) (fun r3 hr6 => ?_)
    obtain ⟨p7, p8, p9⟩ := hr6
    have p7 : 0 ≤ r3.toInt := p7
    have p8 : r3.toInt ≤ 1 := p8
    have p9 : r3.toInt ≠ 0 → 0 ≤ x2.toInt ∧ x2.toInt < (σ.1 0 0).toInt := p9
    have : 0 ≤ (σ.1 0 0).toInt ∧ (σ.1 0 0).toInt ≤ 40 := hI.1 0 0
    refine ok_eq (fun h10 => ?_) (fun h10 => ?_)
    · have : ((-1) : Int32).toInt = (-1) := by decide
      exact ok_some ⟨hI, by show (-1) ≤ ((-1) : Int32).toInt; omega, by show ((-1) : Int32).toInt ≤ 11; omega⟩
    · refine ok_bs (sX12_chooseName (σ.1 0 9).toInt σ x1 x2 hI (by omega) (by omega) (by omega) (by omega) (by omega) (by omega)) (fun r5 σ6 hr11 => ?_)
      obtain ⟨p12, p13⟩ := hr11
      have p12 : IvM g σ6 := p12
      have p13 : (σ6.1 0 9).toInt = (σ.1 0 9).toInt := p13
      have := i32_rng x3
      have : ((-1) : Int32).toInt = (-1) := by decide
      refine ok_eq (fun h14 => ?_) (fun h14 => ?_)
      · have : 0 ≤ (σ6.1 0 55).toInt ∧ (σ6.1 0 55).toInt ≤ 4 := p12.1 0 55
        exact ok_some ⟨p12, by show (-1) ≤ (σ6.1 0 55).toInt; omega, by show (σ6.1 0 55).toInt ≤ 11; omega⟩
      · have : 0 ≤ (σ6.1 0 55).toInt ∧ (σ6.1 0 55).toInt ≤ 4 := p12.1 0 55
        have : (1 : Int32).toInt = 1 := by decide
        have : (((σ6.1 0 55) - 1) : Int32).toInt = ((σ6.1 0 55) : Int32).toInt - (1 : Int32).toInt := i32_sub (by omega) (by omega)
        refine ok_bi (sX12_in σ6 x3 0 ((σ6.1 0 55) - 1) p12 (by omega) (by omega) (by omega) (by omega)) (fun r8 hr15 => ?_)
        obtain ⟨p16, p17, p18⟩ := hr15
        have p16 : 0 ≤ r8.toInt := p16
        have p17 : r8.toInt ≤ 1 := p17
        have p18 : r8.toInt ≠ 0 → (0 : Int32).toInt ≤ x3.toInt ∧ x3.toInt ≤ ((σ6.1 0 55) - 1).toInt := p18
        refine ok_eq (fun h19 => ?_) (fun h19 => ?_)
        · exact ok_some ⟨p12, by show (-1) ≤ ((-1) : Int32).toInt; omega, by show ((-1) : Int32).toInt ≤ 11; omega⟩
        · refine ok_ck (by omega) (by omega) ?_
          have : 0 ≤ (σ6.1 36 (Int32.toNatClampNeg x3)).toInt ∧ (σ6.1 36 (Int32.toNatClampNeg x3)).toInt ≤ 11 := p12.1 36 (Int32.toNatClampNeg x3)
          refine ok_nmI (fun v10 hv10 he20 => ?_)
          exact ok_some ⟨p12, by show (-1) ≤ v10.toInt; omega, by show v10.toInt ≤ 11; omega⟩

theorem sX12_keeperOf {g : Nat} (σ : S2) (a1 : Int32) (a2 : Int32) (a3 : Int32) (hI : IvM g σ)   : Ok (fun z => IvM g z.2 ∧ (-1) ≤ z.1.toInt ∧ z.1.toInt ≤ 11) (fX12_keeperOf σ a1 a2 a3) := by
  unfold fX12_keeperOf
  exact sX12_keeperOf_0 σ a1 a2 a3 hI

theorem sX12_tooFew_48 {g : Nat} (k14 : S2 → Int32 → Int32 → Int32 → Option (Int32 × S2)) (σ : S2) (x1 : Int32) (x3 : Int32) (s0 : Int32) (s1 : Int32) (hI : IvM g σ) (p9000 : 0 ≤ x1.toInt) (p9001 : x1.toInt ≤ 9) (p9002 : 0 ≤ x3.toInt) (p9003 : x3.toInt ≤ 39) (p9004 : 0 ≤ s0.toInt) (p9005 : s0.toInt ≤ 1) (p9006 : (x1.toInt < (σ.1 0 9).toInt ∨ (x1.toInt = 10 ∧ g = 0))) (hk14 : ∀ (y0 : S2) (y1 : Int32) (y2 : Int32) (y3 : Int32), IvM g y0 → 0 ≤ y1.toInt → y1.toInt ≤ 9 → 0 ≤ y3.toInt → y3.toInt ≤ 40 → (y1.toInt < (y0.1 0 9).toInt ∨ (y1.toInt = 10 ∧ g = 0)) → x3.toInt + 1 ≤ y3.toInt → Ok (fun z => IvM g z.2) (k14 y0 y1 y2 y3)) : Ok (fun z => IvM g z.2) (fX12_tooFew_48 k14 σ x1 x3 s0 s1) := by
  have hFU : ((FU : Nat) : Int) = 100000 := rfl
  unfold fX12_tooFew_48
  have := i32_rng s1
  have := i32_rng (s1 + s0)
  refine ok_nmI (fun v1 hv1 he1 => ?_)
  have : (1 : Int32).toInt = 1 := by decide
  have : ((x3 + 1) : Int32).toInt = (x3 : Int32).toInt + (1 : Int32).toInt := i32_add (by omega) (by omega)
  refine ok_nmI (fun v2 hv2 he2 => ?_)
  have := i32_rng v1
  exact hk14 σ x1 v1 v2 hI (by omega) (by omega) (by omega) (by omega) (by omega) (by omega)

theorem sX12_tooFew_14 {g : Nat} : ∀ (n : Nat) (σ : S2) (x1 : Int32) (x2 : Int32) (x3 : Int32), IvM g σ → 0 ≤ x1.toInt → x1.toInt ≤ 9 → 0 ≤ x3.toInt → x3.toInt ≤ 40 → (x1.toInt < (σ.1 0 9).toInt ∨ (x1.toInt = 10 ∧ g = 0)) → 40 - x3.toInt < (n : Int) → Ok (fun z => IvM g z.2) (fX12_tooFew_14 n σ x1 x2 x3) := by
  have hFU : ((FU : Nat) : Int) = 100000 := rfl
  intro n
  induction n with
  | zero => intro σ x1 x2 x3 hI p9000 p9001 p9002 p9003 p9004 hm; exfalso; omega
  | succ n ih =>
    intro σ x1 x2 x3 hI p9000 p9001 p9002 p9003 p9004 hm
    unfold fX12_tooFew_14
    have : 0 ≤ (σ.1 0 0).toInt ∧ (σ.1 0 0).toInt ≤ 40 := hI.1 0 0
    refine ok_le (fun h1 => ?_) (fun h1 => ?_)
    · have := i32_rng x2
      exact ok_some hI
    · have : 0 ≤ (σ.1 0 9).toInt ∧ (σ.1 0 9).toInt ≤ 10 := hI.1 0 9
      refine ok_bs (sX12_chooseName (σ.1 0 9).toInt σ x1 x3 hI (by omega) (by omega) (by omega) (by omega) (by omega) (by omega)) (fun r3 σ4 hr2 => ?_)
      obtain ⟨p3, p4⟩ := hr2
      have p3 : IvM g σ4 := p3
      have p4 : (σ4.1 0 9).toInt = (σ.1 0 9).toInt := p4
      refine ok_bi (sX12_streetsOf σ4 x1 p3 (by omega) (by omega)) (fun r6 hr5 => ?_)
      refine ok_ck (by omega) (by omega) ?_
      have : 0 ≤ (σ4.1 11 (Int32.toNatClampNeg x1)).toInt ∧ (σ4.1 11 (Int32.toNatClampNeg x1)).toInt ≤ 4 := p3.1 11 (Int32.toNatClampNeg x1)
      refine ok_nmI (fun v8 hv8 he6 => ?_)
      have := i32_rng r6
      refine ok_le (fun h7 => ?_) (fun h7 => ?_)
      · have : (0 : Int32).toInt = 0 := by decide
        have := i32_rng x2
        exact sX12_tooFew_48 (fX12_tooFew_14 n) σ4 x1 x3 0 x2 p3 (by omega) (by omega) (by omega) (by omega) (by omega) (by omega) (by omega) (fun y0 y1 y2 y3 q0 q1 q2 q3 q4 q5 q6 => ih y0 y1 y2 y3 q0 q1 q2 q3 q4 q5 (by omega))
      · have : (1 : Int32).toInt = 1 := by decide
        have := i32_rng x2
        exact sX12_tooFew_48 (fX12_tooFew_14 n) σ4 x1 x3 1 x2 p3 (by omega) (by omega) (by omega) (by omega) (by omega) (by omega) (by omega) (fun y0 y1 y2 y3 q0 q1 q2 q3 q4 q5 q6 => ih y0 y1 y2 y3 q0 q1 q2 q3 q4 q5 (by omega))

theorem sX12_tooFew_0 {g : Nat} (σ : S2) (x1 : Int32) (hI : IvM g σ)   : Ok (fun z => IvM g z.2) (fX12_tooFew_0 σ x1) := by
  have hFU : ((FU : Nat) : Int) = 100000 := rfl
  unfold fX12_tooFew_0
  have := i32_rng x1
  refine ok_bi (sX12_isTable σ x1 hI) (fun r9 hr1 => ?_)
  obtain ⟨p2, p3, p4⟩ := hr1
  have p2 : 0 ≤ r9.toInt := p2
  have p3 : r9.toInt ≤ 1 := p3
  have p4 : r9.toInt ≠ 0 → 0 ≤ x1.toInt ∧ x1.toInt < (σ.1 0 9).toInt := p4
  have : 0 ≤ (σ.1 0 9).toInt ∧ (σ.1 0 9).toInt ≤ 10 := hI.1 0 9
  have : (0 : Int32).toInt = 0 := by decide
  refine ok_eq (fun h5 => ?_) (fun h5 => ?_)
  · have : ((-1) : Int32).toInt = (-1) := by decide
    exact ok_some hI
  · exact sX12_tooFew_14 FU σ x1 0 0 hI (by omega) (by omega) (by omega) (by omega) (by omega) (by omega)

theorem sX12_tooFew {g : Nat} (σ : S2) (a1 : Int32) (hI : IvM g σ)   : Ok (fun z => IvM g z.2) (fX12_tooFew σ a1) := by
  unfold fX12_tooFew
  exact sX12_tooFew_0 σ a1 hI

theorem sX12_shareOf_47 {g : Nat} (t0 : Int) (k5 : S2 → Int32 → Int32 → Int32 → Int32 → Option (Int32 × S2)) (σ : S2) (x1 : Int32) (x2 : Int32) (x4 : Int32) (s0 : Int32) (s1 : Int32) (hI : IvM g σ) (p9000 : 0 ≤ x1.toInt) (p9001 : x1.toInt ≤ 10) (p9002 : 0 ≤ x2.toInt) (p9003 : x2.toInt ≤ 11) (p9004 : 0 ≤ x4.toInt) (p9005 : x4.toInt ≤ 39) (p9006 : 0 ≤ s0.toInt) (p9007 : s0.toInt ≤ 1) (p9008 : (σ.1 0 9).toInt = t0) (p9009 : (x1.toInt < (σ.1 0 9).toInt ∨ (x1.toInt = 10 ∧ g = 0))) (hk5 : ∀ (y0 : S2) (y1 : Int32) (y2 : Int32) (y3 : Int32) (y4 : Int32), IvM g y0 → 0 ≤ y1.toInt → y1.toInt ≤ 10 → 0 ≤ y2.toInt → y2.toInt ≤ 11 → 0 ≤ y4.toInt → y4.toInt ≤ 40 → (y0.1 0 9).toInt = t0 → (y1.toInt < (y0.1 0 9).toInt ∨ (y1.toInt = 10 ∧ g = 0)) → x4.toInt + 1 ≤ y4.toInt → Ok (fun z => IvM g z.2 ∧ (z.2.1 0 9).toInt = t0) (k5 y0 y1 y2 y3 y4)) : Ok (fun z => IvM g z.2 ∧ (z.2.1 0 9).toInt = t0) (fX12_shareOf_47 k5 σ x1 x2 x4 s0 s1) := by
  have hFU : ((FU : Nat) : Int) = 100000 := rfl
  unfold fX12_shareOf_47
  have := i32_rng s1
  have := i32_rng (s1 + s0)
  refine ok_nmI (fun v1 hv1 he1 => ?_)
  have : (1 : Int32).toInt = 1 := by decide
  have : ((x4 + 1) : Int32).toInt = (x4 : Int32).toInt + (1 : Int32).toInt := i32_add (by omega) (by omega)
  refine ok_nmI (fun v2 hv2 he2 => ?_)
  have := i32_rng v1
  have : 0 ≤ (σ.1 0 9).toInt ∧ (σ.1 0 9).toInt ≤ 10 := hI.1 0 9
  exact hk5 σ x1 x2 v1 v2 hI (by omega) (by omega) (by omega) (by omega) (by omega) (by omega) (by omega) (by omega) (by omega)

theorem sX12_shareOf_5 {g : Nat} (t0 : Int) : ∀ (n : Nat) (σ : S2) (x1 : Int32) (x2 : Int32) (x3 : Int32) (x4 : Int32), IvM g σ → 0 ≤ x1.toInt → x1.toInt ≤ 10 → 0 ≤ x2.toInt → x2.toInt ≤ 11 → 0 ≤ x4.toInt → x4.toInt ≤ 40 → (σ.1 0 9).toInt = t0 → (x1.toInt < (σ.1 0 9).toInt ∨ (x1.toInt = 10 ∧ g = 0)) → 40 - x4.toInt < (n : Int) → Ok (fun z => IvM g z.2 ∧ (z.2.1 0 9).toInt = t0) (fX12_shareOf_5 n σ x1 x2 x3 x4) := by
  have hFU : ((FU : Nat) : Int) = 100000 := rfl
  intro n
  induction n with
  | zero => intro σ x1 x2 x3 x4 hI p9000 p9001 p9002 p9003 p9004 p9005 p9006 p9007 hm; exfalso; omega
  | succ n ih =>
    intro σ x1 x2 x3 x4 hI p9000 p9001 p9002 p9003 p9004 p9005 p9006 p9007 hm
    unfold fX12_shareOf_5
    have : 0 ≤ (σ.1 0 0).toInt ∧ (σ.1 0 0).toInt ≤ 40 := hI.1 0 0
    refine ok_le (fun h1 => ?_) (fun h1 => ?_)
    · have := i32_rng x3
      exact ok_some ⟨hI, by show (σ.1 0 9).toInt = t0; omega⟩
    · refine ok_ck (by omega) (by omega) ?_
      have := i32_rng (σ.1 9 (Int32.toNatClampNeg x1))
      refine ok_nmI (fun v3 hv3 he2 => ?_)
      have := i32_rng v3
      refine ok_bi (sX12_numberOf σ x4 v3 hI (by omega) (by omega)) (fun r4 hr3 => ?_)
      obtain ⟨p4, p5⟩ := hr3
      have p4 : 0 ≤ r4.toInt := p4
      have p5 : r4.toInt ≤ 999 := p5
      have : 0 ≤ (σ.1 0 9).toInt ∧ (σ.1 0 9).toInt ≤ 10 := hI.1 0 9
      refine ok_bs (sX12_pick (σ.1 0 9).toInt σ x1 r4 hI (by omega) (by omega) (by omega) (by omega) (by omega) (by omega)) (fun r6 σ7 hr6 => ?_)
      obtain ⟨p7, p8⟩ := hr6
      have p7 : IvM g σ7 := p7
      have p8 : (σ7.1 0 9).toInt = (σ.1 0 9).toInt := p8
      have : (0 : Int32).toInt = 0 := by decide
      refine ok_ck (by omega) (by omega) ?_
      have : 0 ≤ (σ7.1 35 (Int32.toNatClampNeg 0)).toInt ∧ (σ7.1 35 (Int32.toNatClampNeg 0)).toInt ≤ 11 := p7.1 35 (Int32.toNatClampNeg 0)
      refine ok_nmI (fun v9 hv9 he9 => ?_)
      refine ok_eq (fun h10 => ?_) (fun h10 => ?_)
      · have : (1 : Int32).toInt = 1 := by decide
        have := i32_rng x3
        have : 0 ≤ (σ7.1 0 9).toInt ∧ (σ7.1 0 9).toInt ≤ 10 := p7.1 0 9
        exact sX12_shareOf_47 t0 (fX12_shareOf_5 n) σ7 x1 x2 x4 1 x3 p7 (by omega) (by omega) (by omega) (by omega) (by omega) (by omega) (by omega) (by omega) (by omega) (by omega) (fun y0 y1 y2 y3 y4 q0 q1 q2 q3 q4 q5 q6 q7 q8 q9 => ih y0 y1 y2 y3 y4 q0 q1 q2 q3 q4 q5 q6 q7 q8 (by omega))
      · have := i32_rng x3
        have : 0 ≤ (σ7.1 0 9).toInt ∧ (σ7.1 0 9).toInt ≤ 10 := p7.1 0 9
        exact sX12_shareOf_47 t0 (fX12_shareOf_5 n) σ7 x1 x2 x4 0 x3 p7 (by omega) (by omega) (by omega) (by omega) (by omega) (by omega) (by omega) (by omega) (by omega) (by omega) (fun y0 y1 y2 y3 y4 q0 q1 q2 q3 q4 q5 q6 q7 q8 q9 => ih y0 y1 y2 y3 y4 q0 q1 q2 q3 q4 q5 q6 q7 q8 (by omega))

theorem sX12_shareOf_0 {g : Nat} (t0 : Int) (σ : S2) (x1 : Int32) (x2 : Int32) (hI : IvM g σ) (p9000 : 0 ≤ x1.toInt) (p9001 : x1.toInt ≤ 10) (p9002 : 0 ≤ x2.toInt) (p9003 : x2.toInt ≤ 11) (p9004 : (σ.1 0 9).toInt = t0) (p9005 : (x1.toInt < (σ.1 0 9).toInt ∨ (x1.toInt = 10 ∧ g = 0)))  : Ok (fun z => IvM g z.2 ∧ (z.2.1 0 9).toInt = t0) (fX12_shareOf_0 σ x1 x2) := by
  have hFU : ((FU : Nat) : Int) = 100000 := rfl
  unfold fX12_shareOf_0
  have : (0 : Int32).toInt = 0 := by decide
  have : 0 ≤ (σ.1 0 9).toInt ∧ (σ.1 0 9).toInt ≤ 10 := hI.1 0 9
  exact sX12_shareOf_5 t0 FU σ x1 x2 0 0 hI (by omega) (by omega) (by omega) (by omega) (by omega) (by omega) (by omega) (by omega) (by omega)

theorem sX12_shareOf {g : Nat} (t0 : Int) (σ : S2) (a1 : Int32) (a2 : Int32) (hI : IvM g σ) (p9000 : 0 ≤ a1.toInt) (p9001 : a1.toInt ≤ 10) (p9002 : 0 ≤ a2.toInt) (p9003 : a2.toInt ≤ 11) (p9004 : (σ.1 0 9).toInt = t0) (p9005 : (a1.toInt < (σ.1 0 9).toInt ∨ (a1.toInt = 10 ∧ g = 0)))  : Ok (fun z => IvM g z.2 ∧ (z.2.1 0 9).toInt = t0) (fX12_shareOf σ a1 a2) := by
  unfold fX12_shareOf
  exact sX12_shareOf_0 t0 σ a1 a2 hI (by assumption) (by assumption) (by assumption) (by assumption) (by assumption) (by assumption)

theorem sX12_findOdds_23 {g : Nat} (t0 : Int) : ∀ (n : Nat) (σ : S2) (x1 : Int32) (x2 : Int32), IvM g σ → 0 ≤ x1.toInt → x1.toInt ≤ 9 → 0 ≤ x2.toInt → x2.toInt ≤ 1000 → (σ.1 0 9).toInt = t0 → (x1.toInt < (σ.1 0 9).toInt ∨ (x1.toInt = 10 ∧ g = 0)) → 1000 - x2.toInt < (n : Int) → Ok (fun z => IvM g z.2 ∧ (z.2.1 0 9).toInt = t0) (fX12_findOdds_23 n σ x1 x2) := by
  have hFU : ((FU : Nat) : Int) = 100000 := rfl
  intro n
  induction n with
  | zero => intro σ x1 x2 hI p9000 p9001 p9002 p9003 p9004 p9005 hm; exfalso; omega
  | succ n ih =>
    intro σ x1 x2 hI p9000 p9001 p9002 p9003 p9004 p9005 hm
    unfold fX12_findOdds_23
    have : (1000 : Int32).toInt = 1000 := by decide
    refine ok_le (fun h1 => ?_) (fun h1 => ?_)
    · exact ok_some ⟨hI, by show (σ.1 0 9).toInt = t0; omega⟩
    · have : 0 ≤ (σ.1 0 9).toInt ∧ (σ.1 0 9).toInt ≤ 10 := hI.1 0 9
      refine ok_bs (sX12_pick (σ.1 0 9).toInt σ x1 x2 hI (by omega) (by omega) (by omega) (by omega) (by omega) (by omega)) (fun r1 σ2 hr2 => ?_)
      obtain ⟨p3, p4⟩ := hr2
      have p3 : IvM g σ2 := p3
      have p4 : (σ2.1 0 9).toInt = (σ.1 0 9).toInt := p4
      have : (0 : Int32).toInt = 0 := by decide
      refine ok_ck (by omega) (by omega) ?_
      have : 0 ≤ (σ2.1 35 (Int32.toNatClampNeg 0)).toInt ∧ (σ2.1 35 (Int32.toNatClampNeg 0)).toInt ≤ 11 := p3.1 35 (Int32.toNatClampNeg 0)
      refine ok_nmI (fun v4 hv4 he5 => ?_)
      refine ok_ck (by omega) (by omega) ?_
      have := i32_rng (σ2.1 37 (Int32.toNatClampNeg v4))
      refine ok_nmI (fun v5 hv5 he6 => ?_)
      refine ok_ck (by omega) (by omega) ?_
      have := i32_rng v5
      have : (1 : Int32).toInt = 1 := by decide
      have := i32_rng (v5 + 1)
      refine ok_nm (fun σ6 hs7 => ?_)
      have hI8 : IvM g σ6 := by rw [hs7]; exact IvM.wI p3 rfl (i32_rng _).1 (i32_rng _).2
      have : (σ6.1 0 9).toInt = (σ2.1 0 9).toInt := by rw [hs7]; rfl
      have : (σ6.1 35 (Int32.toNatClampNeg 0)).toInt = (σ2.1 35 (Int32.toNatClampNeg 0)).toInt := by rw [hs7]; rfl
      have : ((x2 + 1) : Int32).toInt = (x2 : Int32).toInt + (1 : Int32).toInt := i32_add (by omega) (by omega)
      refine ok_nmI (fun v7 hv7 he9 => ?_)
      have : 0 ≤ (σ6.1 0 9).toInt ∧ (σ6.1 0 9).toInt ≤ 10 := hI8.1 0 9
      exact ih σ6 x1 v7 hI8 (by omega) (by omega) (by omega) (by omega) (by omega) (by omega) (by omega)

theorem sX12_findOdds_2 {g : Nat} (t0 : Int) : ∀ (n : Nat) (σ : S2) (x1 : Int32) (x2 : Int32), IvM g σ → 0 ≤ x1.toInt → x1.toInt ≤ 9 → 0 ≤ x2.toInt → x2.toInt ≤ 12 → (σ.1 0 9).toInt = t0 → (x1.toInt < (σ.1 0 9).toInt ∨ (x1.toInt = 10 ∧ g = 0)) → 12 - x2.toInt < (n : Int) → Ok (fun z => IvM g z.2 ∧ (z.2.1 0 9).toInt = t0) (fX12_findOdds_2 n σ x1 x2) := by
  have hFU : ((FU : Nat) : Int) = 100000 := rfl
  intro n
  induction n with
  | zero => intro σ x1 x2 hI p9000 p9001 p9002 p9003 p9004 p9005 hm; exfalso; omega
  | succ n ih =>
    intro σ x1 x2 hI p9000 p9001 p9002 p9003 p9004 p9005 hm
    unfold fX12_findOdds_2
    have : (12 : Int32).toInt = 12 := by decide
    refine ok_le (fun h1 => ?_) (fun h1 => ?_)
    · have : (0 : Int32).toInt = 0 := by decide
      have : 0 ≤ (σ.1 0 9).toInt ∧ (σ.1 0 9).toInt ≤ 10 := hI.1 0 9
      exact sX12_findOdds_23 t0 FU σ x1 0 hI (by omega) (by omega) (by omega) (by omega) (by omega) (by omega) (by omega)
    · refine ok_ck (by omega) (by omega) ?_
      have : (0 : Int32).toInt = 0 := by decide
      refine ok_nm (fun σ8 hs2 => ?_)
      have hI3 : IvM g σ8 := by rw [hs2]; exact IvM.wI hI rfl (i32_rng _).1 (i32_rng _).2
      have : (σ8.1 0 9).toInt = (σ.1 0 9).toInt := by rw [hs2]; rfl
      have : (1 : Int32).toInt = 1 := by decide
      have : ((x2 + 1) : Int32).toInt = (x2 : Int32).toInt + (1 : Int32).toInt := i32_add (by omega) (by omega)
      refine ok_nmI (fun v9 hv9 he4 => ?_)
      have : 0 ≤ (σ8.1 0 9).toInt ∧ (σ8.1 0 9).toInt ≤ 10 := hI3.1 0 9
      exact ih σ8 x1 v9 hI3 (by omega) (by omega) (by omega) (by omega) (by omega) (by omega) (by omega)

theorem sX12_findOdds_0 {g : Nat} (t0 : Int) (σ : S2) (x1 : Int32) (hI : IvM g σ) (p9000 : 0 ≤ x1.toInt) (p9001 : x1.toInt ≤ 9) (p9002 : (σ.1 0 9).toInt = t0) (p9003 : (x1.toInt < (σ.1 0 9).toInt ∨ (x1.toInt = 10 ∧ g = 0)))  : Ok (fun z => IvM g z.2 ∧ (z.2.1 0 9).toInt = t0) (fX12_findOdds_0 σ x1) := by
  have hFU : ((FU : Nat) : Int) = 100000 := rfl
  unfold fX12_findOdds_0
  have : (0 : Int32).toInt = 0 := by decide
  have : 0 ≤ (σ.1 0 9).toInt ∧ (σ.1 0 9).toInt ≤ 10 := hI.1 0 9
  exact sX12_findOdds_2 t0 FU σ x1 0 hI (by omega) (by omega) (by omega) (by omega) (by omega) (by omega) (by omega)

theorem sX12_findOdds {g : Nat} (t0 : Int) (σ : S2) (a1 : Int32) (hI : IvM g σ) (p9000 : 0 ≤ a1.toInt) (p9001 : a1.toInt ≤ 9) (p9002 : (σ.1 0 9).toInt = t0) (p9003 : (a1.toInt < (σ.1 0 9).toInt ∨ (a1.toInt = 10 ∧ g = 0)))  : Ok (fun z => IvM g z.2 ∧ (z.2.1 0 9).toInt = t0) (fX12_findOdds σ a1) := by
  unfold fX12_findOdds
  exact sX12_findOdds_0 t0 σ a1 hI (by assumption) (by assumption) (by assumption) (by assumption)

theorem sX12_share_0 {g : Nat} (σ : S2) (x1 : Int32) (x2 : Int32) (x3 : Int32) (hI : IvM g σ)   : Ok (fun z => IvM g z.2) (fX12_share_0 σ x1 x2 x3) := by
  have hFU : ((FU : Nat) : Int) = 100000 := rfl
  unfold fX12_share_0
  have := i32_rng x1
  refine ok_bi (sX12_isTable σ x1 hI) (fun r1 hr1 => ?_)
  obtain ⟨p2, p3, p4⟩ := hr1
  have p2 : 0 ≤ r1.toInt := p2
  have p3 : r1.toInt ≤ 1 := p3
  have p4 : r1.toInt ≠ 0 → 0 ≤ x1.toInt ∧ x1.toInt < (σ.1 0 9).toInt := p4
  have : 0 ≤ (σ.1 0 9).toInt ∧ (σ.1 0 9).toInt ≤ 10 := hI.1 0 9
  have : (0 : Int32).toInt = 0 := by decide
  refine ok_eq (fun h5 => ?_) (fun h5 => ?_)
  · have : ((-1) : Int32).toInt = (-1) := by decide
    exact ok_some hI
  · have := i32_rng x2
    refine ok_bi (sX12_isKeeper σ x2 hI) (fun r3 hr6 => ?_)
    obtain ⟨p7, p8, p9⟩ := hr6
    have p7 : 0 ≤ r3.toInt := p7
    have p8 : r3.toInt ≤ 1 := p8
    have p9 : r3.toInt ≠ 0 → 0 ≤ x2.toInt ∧ x2.toInt < (σ.1 0 3).toInt := p9
    have : 0 ≤ (σ.1 0 3).toInt ∧ (σ.1 0 3).toInt ≤ 12 := hI.1 0 3
    refine ok_eq (fun h10 => ?_) (fun h10 => ?_)
    · have : ((-1) : Int32).toInt = (-1) := by decide
      exact ok_some hI
    · have := i32_rng x3
      have : (1 : Int32).toInt = 1 := by decide
      refine ok_bi (sX12_in σ x3 0 1 hI (by omega) (by omega) (by omega) (by omega)) (fun r5 hr11 => ?_)
      obtain ⟨p12, p13, p14⟩ := hr11
      have p12 : 0 ≤ r5.toInt := p12
      have p13 : r5.toInt ≤ 1 := p13
      have p14 : r5.toInt ≠ 0 → (0 : Int32).toInt ≤ x3.toInt ∧ x3.toInt ≤ (1 : Int32).toInt := p14
      refine ok_eq (fun h15 => ?_) (fun h15 => ?_)
      · have : ((-1) : Int32).toInt = (-1) := by decide
        exact ok_some hI
      · refine ok_eq (fun h16 => ?_) (fun h16 => ?_)
        · refine ok_bs (sX12_shareOf (σ.1 0 9).toInt σ x1 x2 hI (by omega) (by omega) (by omega) (by omega) (by omega) (by omega)) (fun r11 σ12 hr17 => ?_)
          obtain ⟨p18, p19⟩ := hr17
          have p18 : IvM g σ12 := p18
          have p19 : (σ12.1 0 9).toInt = (σ.1 0 9).toInt := p19
          have := i32_rng r11
          exact ok_some p18
        · refine ok_bs (sX12_findOdds (σ.1 0 9).toInt σ x1 hI (by omega) (by omega) (by omega) (by omega)) (fun r7 σ8 hr20 => ?_)
          obtain ⟨p21, p22⟩ := hr20
          have p21 : IvM g σ8 := p21
          have p22 : (σ8.1 0 9).toInt = (σ.1 0 9).toInt := p22
          refine ok_ck (by omega) (by omega) ?_
          have := i32_rng (σ8.1 37 (Int32.toNatClampNeg x2))
          refine ok_nmI (fun v10 hv10 he23 => ?_)
          have := i32_rng v10
          exact ok_some p21

theorem sX12_share {g : Nat} (σ : S2) (a1 : Int32) (a2 : Int32) (a3 : Int32) (hI : IvM g σ)   : Ok (fun z => IvM g z.2) (fX12_share σ a1 a2 a3) := by
  unfold fX12_share
  exact sX12_share_0 σ a1 a2 a3 hI

theorem sX12_even_79 {g : Nat} (k14 : S2 → Int32 → Int32 → Int32 → Int32 → Option (Int32 × S2)) (σ : S2) (x1 : Int32) (x2 : Int32) (x3 : Int32) (x4 : Int32) (hI : IvM g σ) (p9000 : 0 ≤ x1.toInt) (p9001 : x1.toInt ≤ 9) (p9002 : x2.toInt ≤ 1000) (p9003 : 0 ≤ x3.toInt) (p9004 : 0 ≤ x4.toInt) (p9005 : x4.toInt ≤ 11) (hk14 : ∀ (y0 : S2) (y1 : Int32) (y2 : Int32) (y3 : Int32) (y4 : Int32), IvM g y0 → 0 ≤ y1.toInt → y1.toInt ≤ 9 → y2.toInt ≤ 1000 → 0 ≤ y3.toInt → 0 ≤ y4.toInt → y4.toInt ≤ 12 → x4.toInt + 1 ≤ y4.toInt → Ok (fun z => IvM g z.2) (k14 y0 y1 y2 y3 y4)) : Ok (fun z => IvM g z.2) (fX12_even_79 k14 σ x1 x2 x3 x4) := by
  have hFU : ((FU : Nat) : Int) = 100000 := rfl
  unfold fX12_even_79
  have : (1 : Int32).toInt = 1 := by decide
  have : ((x4 + 1) : Int32).toInt = (x4 : Int32).toInt + (1 : Int32).toInt := i32_add (by omega) (by omega)
  refine ok_nmI (fun v1 hv1 he1 => ?_)
  have := i32_rng x2
  have := i32_rng x3
  exact hk14 σ x1 x2 x3 v1 hI (by omega) (by omega) (by omega) (by omega) (by omega) (by omega) (by omega)

theorem sX12_even_78 {g : Nat} (k14 : S2 → Int32 → Int32 → Int32 → Int32 → Option (Int32 × S2)) (σ : S2) (x1 : Int32) (x2 : Int32) (x4 : Int32) (s0 : Int32) (hI : IvM g σ) (p9000 : 0 ≤ x1.toInt) (p9001 : x1.toInt ≤ 9) (p9002 : x2.toInt ≤ 1000) (p9003 : 0 ≤ x4.toInt) (p9004 : x4.toInt ≤ 11) (p9005 : 0 ≤ s0.toInt) (hk14 : ∀ (y0 : S2) (y1 : Int32) (y2 : Int32) (y3 : Int32) (y4 : Int32), IvM g y0 → 0 ≤ y1.toInt → y1.toInt ≤ 9 → y2.toInt ≤ 1000 → 0 ≤ y3.toInt → 0 ≤ y4.toInt → y4.toInt ≤ 12 → x4.toInt + 1 ≤ y4.toInt → Ok (fun z => IvM g z.2) (k14 y0 y1 y2 y3 y4)) : Ok (fun z => IvM g z.2) (fX12_even_78 k14 σ x1 x2 x4 s0) := by
  have hFU : ((FU : Nat) : Int) = 100000 := rfl
  unfold fX12_even_78
  have := i32_rng x2
  have := i32_rng s0
  exact sX12_even_79 k14 σ x1 x2 s0 x4 hI (by omega) (by omega) (by omega) (by omega) (by omega) (by omega) (fun y0 y1 y2 y3 y4 q0 q1 q2 q3 q4 q5 q6 q7 => hk14 y0 y1 y2 y3 y4 q0 q1 q2 q3 q4 q5 q6 (by omega))

theorem sX12_even_55 {g : Nat} (k14 : S2 → Int32 → Int32 → Int32 → Int32 → Option (Int32 × S2)) (σ : S2) (x1 : Int32) (x3 : Int32) (x4 : Int32) (s0 : Int32) (hI : IvM g σ) (p9000 : 0 ≤ x1.toInt) (p9001 : x1.toInt ≤ 9) (p9002 : 0 ≤ x3.toInt) (p9003 : 0 ≤ x4.toInt) (p9004 : x4.toInt ≤ 11) (p9005 : s0.toInt ≤ 1000) (hk14 : ∀ (y0 : S2) (y1 : Int32) (y2 : Int32) (y3 : Int32) (y4 : Int32), IvM g y0 → 0 ≤ y1.toInt → y1.toInt ≤ 9 → y2.toInt ≤ 1000 → 0 ≤ y3.toInt → 0 ≤ y4.toInt → y4.toInt ≤ 12 → x4.toInt + 1 ≤ y4.toInt → Ok (fun z => IvM g z.2) (k14 y0 y1 y2 y3 y4)) : Ok (fun z => IvM g z.2) (fX12_even_55 k14 σ x1 x3 x4 s0) := by
  have hFU : ((FU : Nat) : Int) = 100000 := rfl
  unfold fX12_even_55
  refine ok_ck (by omega) (by omega) ?_
  have := i32_rng (σ.1 37 (Int32.toNatClampNeg x4))
  refine ok_nmI (fun v2 hv2 he1 => ?_)
  have := i32_rng v2
  have := i32_rng x3
  refine ok_le (fun h2 => ?_) (fun h2 => ?_)
  · have := i32_rng s0
    exact sX12_even_78 k14 σ x1 s0 x4 x3 hI (by omega) (by omega) (by omega) (by omega) (by omega) (by omega) (fun y0 y1 y2 y3 y4 q0 q1 q2 q3 q4 q5 q6 q7 => hk14 y0 y1 y2 y3 y4 q0 q1 q2 q3 q4 q5 q6 (by omega))
  · refine ok_ck (by omega) (by omega) ?_
    refine ok_nmI (fun v3 hv3 he3 => ?_)
    have := i32_rng s0
    have := i32_rng v3
    exact sX12_even_78 k14 σ x1 s0 x4 v3 hI (by omega) (by omega) (by omega) (by omega) (by omega) (by omega) (fun y0 y1 y2 y3 y4 q0 q1 q2 q3 q4 q5 q6 q7 => hk14 y0 y1 y2 y3 y4 q0 q1 q2 q3 q4 q5 q6 (by omega))

theorem sX12_even_14 {g : Nat} : ∀ (n : Nat) (σ : S2) (x1 : Int32) (x2 : Int32) (x3 : Int32) (x4 : Int32), IvM g σ → 0 ≤ x1.toInt → x1.toInt ≤ 9 → x2.toInt ≤ 1000 → 0 ≤ x3.toInt → 0 ≤ x4.toInt → x4.toInt ≤ 12 → 12 - x4.toInt < (n : Int) → Ok (fun z => IvM g z.2) (fX12_even_14 n σ x1 x2 x3 x4) := by
  have hFU : ((FU : Nat) : Int) = 100000 := rfl
  intro n
  induction n with
  | zero => intro σ x1 x2 x3 x4 hI p9000 p9001 p9002 p9003 p9004 p9005 hm; exfalso; omega
  | succ n ih =>
    intro σ x1 x2 x3 x4 hI p9000 p9001 p9002 p9003 p9004 p9005 hm
    unfold fX12_even_14
    have : 0 ≤ (σ.1 0 3).toInt ∧ (σ.1 0 3).toInt ≤ 12 := hI.1 0 3
    refine ok_le (fun h1 => ?_) (fun h1 => ?_)
    · have := i32_rng x3
      have := i32_rng x2
      have := i32_rng (x3 - x2)
      exact ok_some hI
    · refine ok_bi (sX12_isIn σ x1 x4 hI (by omega) (by omega) (by omega) (by omega)) (fun r4 hr2 => ?_)
      obtain ⟨p3, p4, p5⟩ := hr2
      have p3 : 0 ≤ r4.toInt := p3
      have p4 : r4.toInt ≤ 1 := p4
      have p5 : IiM σ x1 x4 r4 := p5
      have : (0 : Int32).toInt = 0 := by decide
      refine ok_eq (fun h6 => ?_) (fun h6 => ?_)
      · have := i32_rng x2
        have := i32_rng x3
        exact sX12_even_79 (fX12_even_14 n) σ x1 x2 x3 x4 hI (by omega) (by omega) (by omega) (by omega) (by omega) (by omega) (fun y0 y1 y2 y3 y4 q0 q1 q2 q3 q4 q5 q6 q7 => ih y0 y1 y2 y3 y4 q0 q1 q2 q3 q4 q5 q6 (by omega))
      · refine ok_ck (by omega) (by omega) ?_
        have := i32_rng (σ.1 37 (Int32.toNatClampNeg x4))
        refine ok_nmI (fun v6 hv6 he7 => ?_)
        have := i32_rng x2
        have := i32_rng v6
        refine ok_le (fun h8 => ?_) (fun h8 => ?_)
        · have := i32_rng x3
          exact sX12_even_55 (fX12_even_14 n) σ x1 x3 x4 x2 hI (by omega) (by omega) (by omega) (by omega) (by omega) (by omega) (fun y0 y1 y2 y3 y4 q0 q1 q2 q3 q4 q5 q6 q7 => ih y0 y1 y2 y3 y4 q0 q1 q2 q3 q4 q5 q6 (by omega))
        · refine ok_ck (by omega) (by omega) ?_
          refine ok_nmI (fun v7 hv7 he9 => ?_)
          have := i32_rng x3
          have := i32_rng v7
          exact sX12_even_55 (fX12_even_14 n) σ x1 x3 x4 v7 hI (by omega) (by omega) (by omega) (by omega) (by omega) (by omega) (fun y0 y1 y2 y3 y4 q0 q1 q2 q3 q4 q5 q6 q7 => ih y0 y1 y2 y3 y4 q0 q1 q2 q3 q4 q5 q6 (by omega))

theorem sX12_even_0 {g : Nat} (σ : S2) (x1 : Int32) (hI : IvM g σ) (p9000 : 0 ≤ x1.toInt) (p9001 : x1.toInt ≤ 9) (p9002 : (x1.toInt < (σ.1 0 9).toInt ∨ (x1.toInt = 10 ∧ g = 0)))  : Ok (fun z => IvM g z.2) (fX12_even_0 σ x1) := by
  have hFU : ((FU : Nat) : Int) = 100000 := rfl
  unfold fX12_even_0
  have : 0 ≤ (σ.1 0 9).toInt ∧ (σ.1 0 9).toInt ≤ 10 := hI.1 0 9
  refine ok_bs (sX12_findOdds (σ.1 0 9).toInt σ x1 hI (by omega) (by omega) (by omega) (by omega)) (fun r8 σ9 hr1 => ?_)
  obtain ⟨p2, p3⟩ := hr1
  have p2 : IvM g σ9 := p2
  have p3 : (σ9.1 0 9).toInt = (σ.1 0 9).toInt := p3
  have : (1000 : Int32).toInt = 1000 := by decide
  have : (0 : Int32).toInt = 0 := by decide
  exact sX12_even_14 FU σ9 x1 1000 0 0 p2 (by omega) (by omega) (by omega) (by omega) (by omega) (by omega) (by omega)

theorem sX12_even {g : Nat} (σ : S2) (a1 : Int32) (hI : IvM g σ) (p9000 : 0 ≤ a1.toInt) (p9001 : a1.toInt ≤ 9) (p9002 : (a1.toInt < (σ.1 0 9).toInt ∨ (a1.toInt = 10 ∧ g = 0)))  : Ok (fun z => IvM g z.2) (fX12_even σ a1) := by
  unfold fX12_even
  exact sX12_even_0 σ a1 hI (by assumption) (by assumption) (by assumption)

theorem sX12_ofTable_0 {g : Nat} (σ : S2) (x1 : Int32) (x2 : Int32) (hI : IvM g σ)   : Ok (fun z => IvM g z.2) (fX12_ofTable_0 σ x1 x2) := by
  have hFU : ((FU : Nat) : Int) = 100000 := rfl
  unfold fX12_ofTable_0
  have := i32_rng x1
  refine ok_bi (sX12_isTable σ x1 hI) (fun r1 hr1 => ?_)
  obtain ⟨p2, p3, p4⟩ := hr1
  have p2 : 0 ≤ r1.toInt := p2
  have p3 : r1.toInt ≤ 1 := p3
  have p4 : r1.toInt ≠ 0 → 0 ≤ x1.toInt ∧ x1.toInt < (σ.1 0 9).toInt := p4
  have : 0 ≤ (σ.1 0 9).toInt ∧ (σ.1 0 9).toInt ≤ 10 := hI.1 0 9
  have : (0 : Int32).toInt = 0 := by decide
  refine ok_eq (fun h5 => ?_) (fun h5 => ?_)
  · have : ((-1) : Int32).toInt = (-1) := by decide
    exact ok_some hI
  · have := i32_rng x2
    refine ok_eq (fun h6 => ?_) (fun h6 => ?_)
    · refine ok_ck (by omega) (by omega) ?_
      have : 0 ≤ (σ.1 8 (Int32.toNatClampNeg x1)).toInt ∧ (σ.1 8 (Int32.toNatClampNeg x1)).toInt ≤ 4095 := hI.1 8 (Int32.toNatClampNeg x1)
      refine ok_nmI (fun v4 hv4 he7 => ?_)
      exact ok_some hI
    · have : (1 : Int32).toInt = 1 := by decide
      refine ok_eq (fun h8 => ?_) (fun h8 => ?_)
      · refine ok_ck (by omega) (by omega) ?_
        have := i32_rng (σ.1 17 (Int32.toNatClampNeg x1))
        refine ok_nmI (fun v6 hv6 he9 => ?_)
        have := i32_rng v6
        exact ok_some hI
      · have : (2 : Int32).toInt = 2 := by decide
        refine ok_eq (fun h10 => ?_) (fun h10 => ?_)
        · refine ok_ck (by omega) (by omega) ?_
          have : 0 ≤ (σ.1 10 (Int32.toNatClampNeg x1)).toInt ∧ (σ.1 10 (Int32.toNatClampNeg x1)).toInt ≤ 4 := hI.1 10 (Int32.toNatClampNeg x1)
          refine ok_nmI (fun v8 hv8 he11 => ?_)
          exact ok_some hI
        · have : (3 : Int32).toInt = 3 := by decide
          refine ok_eq (fun h12 => ?_) (fun h12 => ?_)
          · refine ok_ck (by omega) (by omega) ?_
            have : 0 ≤ (σ.1 11 (Int32.toNatClampNeg x1)).toInt ∧ (σ.1 11 (Int32.toNatClampNeg x1)).toInt ≤ 4 := hI.1 11 (Int32.toNatClampNeg x1)
            refine ok_nmI (fun v10 hv10 he13 => ?_)
            exact ok_some hI
          · have : (4 : Int32).toInt = 4 := by decide
            refine ok_eq (fun h14 => ?_) (fun h14 => ?_)
            · refine ok_ck (by omega) (by omega) ?_
              have : (-49) ≤ (σ.1 12 (Int32.toNatClampNeg x1)).toInt ∧ (σ.1 12 (Int32.toNatClampNeg x1)).toInt ≤ 207 := hI.1 12 (Int32.toNatClampNeg x1)
              refine ok_nmI (fun v12 hv12 he15 => ?_)
              exact ok_some hI
            · have : (5 : Int32).toInt = 5 := by decide
              refine ok_eq (fun h16 => ?_) (fun h16 => ?_)
              · refine ok_bs (sX12_even σ x1 hI (by omega) (by omega) (by omega)) (fun r14 σ15 hr17 => ?_)
                have hr17 : IvM g σ15 := hr17
                have := i32_rng r14
                exact ok_some hr17
              · have : ((-1) : Int32).toInt = (-1) := by decide
                exact ok_some hI

theorem sX12_ofTable {g : Nat} (σ : S2) (a1 : Int32) (a2 : Int32) (hI : IvM g σ)   : Ok (fun z => IvM g z.2) (fX12_ofTable σ a1 a2) := by
  unfold fX12_ofTable
  exact sX12_ofTable_0 σ a1 a2 hI

theorem sX12_ones_4 {g : Nat} : ∀ (n : Nat) (σ : S2) (x0 : Int32) (x1 : Int32) (x2 : Int32), IvM g σ → 0 ≤ x0.toInt → x0.toInt ≤ 4095 → 0 ≤ x1.toInt → x1.toInt ≤ 12 → 0 ≤ x2.toInt → x2.toInt ≤ 12 → x1.toInt ≤ x2.toInt → 12 - x2.toInt < (n : Int) → Ok (fun z => 0 ≤ z.toInt ∧ z.toInt ≤ 12) (fX12_ones_4 n σ x0 x1 x2) := by
  have hFU : ((FU : Nat) : Int) = 100000 := rfl
  intro n
  induction n with
  | zero => intro σ x0 x1 x2 hI p9000 p9001 p9002 p9003 p9004 p9005 p9006 hm; exfalso; omega
  | succ n ih =>
    intro σ x0 x1 x2 hI p9000 p9001 p9002 p9003 p9004 p9005 p9006 hm
    unfold fX12_ones_4
    have : (12 : Int32).toInt = 12 := by decide
    refine ok_le (fun h1 => ?_) (fun h1 => ?_)
    · exact ok_some ⟨by show 0 ≤ x1.toInt; omega, by show x1.toInt ≤ 12; omega⟩
    · have : (31 : Int32).toInt = 31 := by decide
      have := i32_andR (a := x2) (m := 31) (by omega)
      have := i32_andL (a := x2) (m := 31) (by omega)
      have := i32_sar (a := x0) (k := (x2 &&& 31)) (by omega)
      have : (1 : Int32).toInt = 1 := by decide
      have := i32_andR (a := (x0 >>> (x2 &&& 31))) (m := 1) (by omega)
      have : ((x1 + ((x0 >>> (x2 &&& 31)) &&& 1)) : Int32).toInt = (x1 : Int32).toInt + (((x0 >>> (x2 &&& 31)) &&& 1) : Int32).toInt := i32_add (by omega) (by omega)
      refine ok_nmI (fun v1 hv1 he2 => ?_)
      have : ((x2 + 1) : Int32).toInt = (x2 : Int32).toInt + (1 : Int32).toInt := i32_add (by omega) (by omega)
      refine ok_nmI (fun v2 hv2 he3 => ?_)
      exact ih σ x0 v1 v2 hI (by omega) (by omega) (by omega) (by omega) (by omega) (by omega) (by omega) (by omega)

theorem sX12_ones_0 {g : Nat} (σ : S2) (x0 : Int32) (hI : IvM g σ) (p9000 : 0 ≤ x0.toInt) (p9001 : x0.toInt ≤ 4095)  : Ok (fun z => 0 ≤ z.toInt ∧ z.toInt ≤ 12) (fX12_ones_0 σ x0) := by
  have hFU : ((FU : Nat) : Int) = 100000 := rfl
  unfold fX12_ones_0
  have : (0 : Int32).toInt = 0 := by decide
  exact sX12_ones_4 FU σ x0 0 0 hI (by omega) (by omega) (by omega) (by omega) (by omega) (by omega) (by omega) (by omega)

theorem sX12_ones {g : Nat} (σ : S2) (a0 : Int32) (hI : IvM g σ) (p9000 : 0 ≤ a0.toInt) (p9001 : a0.toInt ≤ 4095)  : Ok (fun z => 0 ≤ z.toInt ∧ z.toInt ≤ 12) (fX12_ones σ a0) := by
  unfold fX12_ones
  exact sX12_ones_0 σ a0 hI (by assumption) (by assumption)

theorem sX12_moves_191 {g : Nat} (k117 : S2 → Int32 → Int32 → Int32 → Int32 → Int32 → Int32 → Int32 → Option (Int32 × S2)) (σ : S2) (x1 : Int32) (x2 : Int32) (x3 : Int32) (x4 : Int32) (x5 : Int32) (x7 : Int32) (s0 : Int32) (s1 : Int32) (hI : IvM g σ) (p9000 : 0 ≤ x1.toInt) (p9001 : x1.toInt ≤ 9) (p9002 : 0 ≤ x2.toInt) (p9003 : x2.toInt ≤ 9) (p9004 : 0 ≤ x3.toInt) (p9005 : x3.toInt ≤ 1) (p9006 : 0 ≤ x4.toInt) (p9007 : 0 ≤ x7.toInt) (p9008 : x7.toInt ≤ 39) (p9009 : 0 ≤ s0.toInt) (p9010 : s0.toInt ≤ 12) (p9011 : (x1.toInt < (σ.1 0 9).toInt ∨ (x1.toInt = 10 ∧ g = 0))) (p9012 : (x2.toInt < (σ.1 0 9).toInt ∨ (x2.toInt = 10 ∧ g = 0))) (hk117 : ∀ (y0 : S2) (y1 : Int32) (y2 : Int32) (y3 : Int32) (y4 : Int32) (y5 : Int32) (y6 : Int32) (y7 : Int32), IvM g y0 → 0 ≤ y1.toInt → y1.toInt ≤ 9 → 0 ≤ y2.toInt → y2.toInt ≤ 9 → 0 ≤ y3.toInt → y3.toInt ≤ 1 → 0 ≤ y4.toInt → 0 ≤ y7.toInt → y7.toInt ≤ 40 → (y1.toInt < (y0.1 0 9).toInt ∨ (y1.toInt = 10 ∧ g = 0)) → (y2.toInt < (y0.1 0 9).toInt ∨ (y2.toInt = 10 ∧ g = 0)) → x7.toInt + 1 ≤ y7.toInt → Ok (fun z => IvM g z.2) (k117 y0 y1 y2 y3 y4 y5 y6 y7)) : Ok (fun z => IvM g z.2) (fX12_moves_191 k117 σ x1 x2 x3 x4 x5 x7 s0 s1) := by
  have hFU : ((FU : Nat) : Int) = 100000 := rfl
  unfold fX12_moves_191
  have := i32_rng s1
  have := i32_rng (s1 + s0)
  refine ok_nmI (fun v1 hv1 he1 => ?_)
  have : (1 : Int32).toInt = 1 := by decide
  have : ((x7 + 1) : Int32).toInt = (x7 : Int32).toInt + (1 : Int32).toInt := i32_add (by omega) (by omega)
  refine ok_nmI (fun v2 hv2 he2 => ?_)
  have := i32_rng x4
  have := i32_rng x5
  have := i32_rng v1
  exact hk117 σ x1 x2 x3 x4 x5 v1 v2 hI (by omega) (by omega) (by omega) (by omega) (by omega) (by omega) (by omega) (by omega) (by omega) (by omega) (by omega) (by omega)

theorem sX12_moves_117 {g : Nat} : ∀ (n : Nat) (σ : S2) (x1 : Int32) (x2 : Int32) (x3 : Int32) (x4 : Int32) (x5 : Int32) (x6 : Int32) (x7 : Int32), IvM g σ → 0 ≤ x1.toInt → x1.toInt ≤ 9 → 0 ≤ x2.toInt → x2.toInt ≤ 9 → 0 ≤ x3.toInt → x3.toInt ≤ 1 → 0 ≤ x4.toInt → 0 ≤ x7.toInt → x7.toInt ≤ 40 → (x1.toInt < (σ.1 0 9).toInt ∨ (x1.toInt = 10 ∧ g = 0)) → (x2.toInt < (σ.1 0 9).toInt ∨ (x2.toInt = 10 ∧ g = 0)) → 40 - x7.toInt < (n : Int) → Ok (fun z => IvM g z.2) (fX12_moves_117 n σ x1 x2 x3 x4 x5 x6 x7) := by
  have hFU : ((FU : Nat) : Int) = 100000 := rfl
  intro n
  induction n with
  | zero => intro σ x1 x2 x3 x4 x5 x6 x7 hI p9000 p9001 p9002 p9003 p9004 p9005 p9006 p9007 p9008 p9009 p9010 hm; exfalso; omega
  | succ n ih =>
    intro σ x1 x2 x3 x4 x5 x6 x7 hI p9000 p9001 p9002 p9003 p9004 p9005 p9006 p9007 p9008 p9009 p9010 hm
    unfold fX12_moves_117
    have : 0 ≤ (σ.1 0 0).toInt ∧ (σ.1 0 0).toInt ≤ 40 := hI.1 0 0
    refine ok_le (fun h1 => ?_) (fun h1 => ?_)
    · have : (0 : Int32).toInt = 0 := by decide
      refine ok_eq (fun h2 => ?_) (fun h2 => ?_)
      · have := i32_rng x5
        exact ok_some hI
      · have := i32_rng x6
        exact ok_some hI
    · have : 0 ≤ (σ.1 0 9).toInt ∧ (σ.1 0 9).toInt ≤ 10 := hI.1 0 9
      refine ok_bs (sX12_chooseName (σ.1 0 9).toInt σ x1 x7 hI (by omega) (by omega) (by omega) (by omega) (by omega) (by omega)) (fun r3 σ4 hr3 => ?_)
      obtain ⟨p4, p5⟩ := hr3
      have p4 : IvM g σ4 := p4
      have p5 : (σ4.1 0 9).toInt = (σ.1 0 9).toInt := p5
      refine ok_bi (sX12_bits σ4 p4) (fun r6 hr6 => ?_)
      obtain ⟨p7, p8⟩ := hr6
      have p7 : 0 ≤ r6.toInt := p7
      have p8 : r6.toInt ≤ 4095 := p8
      have : 0 ≤ (σ4.1 0 9).toInt ∧ (σ4.1 0 9).toInt ≤ 10 := p4.1 0 9
      refine ok_bs (sX12_chooseName (σ4.1 0 9).toInt σ4 x2 x7 p4 (by omega) (by omega) (by omega) (by omega) (by omega) (by omega)) (fun r8 σ9 hr9 => ?_)
      obtain ⟨p10, p11⟩ := hr9
      have p10 : IvM g σ9 := p10
      have p11 : (σ9.1 0 9).toInt = (σ4.1 0 9).toInt := p11
      refine ok_bi (sX12_bits σ9 p10) (fun r11 hr12 => ?_)
      obtain ⟨p13, p14⟩ := hr12
      have p13 : 0 ≤ r11.toInt := p13
      have p14 : r11.toInt ≤ 4095 := p14
      have : ((-1) : Int32).toInt = (-1) := by decide
      have := i32_rng (r6 ^^^ (-1))
      have := i32_andL (a := r11) (m := (r6 ^^^ (-1))) (by omega)
      refine ok_nmI (fun v13 hv13 he15 => ?_)
      refine ok_bi (sX12_ones σ9 v13 p10 (by omega) (by omega)) (fun r14 hr16 => ?_)
      obtain ⟨p17, p18⟩ := hr16
      have p17 : 0 ≤ r14.toInt := p17
      have p18 : r14.toInt ≤ 12 := p18
      have := i32_rng x5
      have := i32_rng (x5 + r14)
      refine ok_nmI (fun v16 hv16 he19 => ?_)
      have := i32_rng x4
      have := i32_rng (x4 ^^^ (-1))
      have := i32_andL (a := r6) (m := (x4 ^^^ (-1))) (by omega)
      have : (0 : Int32).toInt = 0 := by decide
      refine ok_eq (fun h20 => ?_) (fun h20 => ?_)
      · have := i32_andR (a := v13) (m := x4) (by omega)
        have := i32_andL (a := v13) (m := x4) (by omega)
        refine ok_bi (sX12_ones σ9 (v13 &&& x4) p10 (by omega) (by omega)) (fun r17 hr21 => ?_)
        obtain ⟨p22, p23⟩ := hr21
        have p22 : 0 ≤ r17.toInt := p22
        have p23 : r17.toInt ≤ 12 := p23
        have := i32_rng v16
        have := i32_rng x6
        exact sX12_moves_191 (fX12_moves_117 n) σ9 x1 x2 x3 x4 v16 x7 r17 x6 p10 (by omega) (by omega) (by omega) (by omega) (by omega) (by omega) (by omega) (by omega) (by omega) (by omega) (by omega) (by omega) (by omega) (fun y0 y1 y2 y3 y4 y5 y6 y7 q0 q1 q2 q3 q4 q5 q6 q7 q8 q9 q10 q11 q12 => ih y0 y1 y2 y3 y4 y5 y6 y7 q0 q1 q2 q3 q4 q5 q6 q7 q8 q9 q10 q11 (by omega))
      · have := i32_rng v16
        have := i32_rng x6
        exact sX12_moves_191 (fX12_moves_117 n) σ9 x1 x2 x3 x4 v16 x7 0 x6 p10 (by omega) (by omega) (by omega) (by omega) (by omega) (by omega) (by omega) (by omega) (by omega) (by omega) (by omega) (by omega) (by omega) (fun y0 y1 y2 y3 y4 y5 y6 y7 q0 q1 q2 q3 q4 q5 q6 q7 q8 q9 q10 q11 q12 => ih y0 y1 y2 y3 y4 y5 y6 y7 q0 q1 q2 q3 q4 q5 q6 q7 q8 q9 q10 q11 (by omega))

theorem sX12_moves_99 {g : Nat} (k33 : S2 → Int32 → Int32 → Int32 → Int32 → Int32 → Option (Int32 × S2)) (σ : S2) (x1 : Int32) (x2 : Int32) (x3 : Int32) (x5 : Int32) (s0 : Int32) (s1 : Int32) (hI : IvM g σ) (p9000 : 0 ≤ x1.toInt) (p9001 : x1.toInt ≤ 9) (p9002 : 0 ≤ x2.toInt) (p9003 : x2.toInt ≤ 9) (p9004 : 0 ≤ x3.toInt) (p9005 : x3.toInt ≤ 1) (p9006 : 0 ≤ x5.toInt) (p9007 : x5.toInt ≤ 11) (p9008 : 0 ≤ s0.toInt) (p9009 : s0.toInt ≤ 2048) (p9010 : 0 ≤ s1.toInt) (p9011 : (x1.toInt < (σ.1 0 9).toInt ∨ (x1.toInt = 10 ∧ g = 0))) (p9012 : (x2.toInt < (σ.1 0 9).toInt ∨ (x2.toInt = 10 ∧ g = 0))) (hk33 : ∀ (y0 : S2) (y1 : Int32) (y2 : Int32) (y3 : Int32) (y4 : Int32) (y5 : Int32), IvM g y0 → 0 ≤ y1.toInt → y1.toInt ≤ 9 → 0 ≤ y2.toInt → y2.toInt ≤ 9 → 0 ≤ y3.toInt → y3.toInt ≤ 1 → 0 ≤ y4.toInt → 0 ≤ y5.toInt → y5.toInt ≤ 12 → (y1.toInt < (y0.1 0 9).toInt ∨ (y1.toInt = 10 ∧ g = 0)) → (y2.toInt < (y0.1 0 9).toInt ∨ (y2.toInt = 10 ∧ g = 0)) → x5.toInt + 1 ≤ y5.toInt → Ok (fun z => IvM g z.2) (k33 y0 y1 y2 y3 y4 y5)) : Ok (fun z => IvM g z.2) (fX12_moves_99 k33 σ x1 x2 x3 x5 s0 s1) := by
  have hFU : ((FU : Nat) : Int) = 100000 := rfl
  unfold fX12_moves_99
  have := i32_rng s1
  have := i32_orB (a := s1) (b := s0) 31 2147483647 (by decide) (by decide) (by omega) (by omega) (by omega) (by omega)
  refine ok_nmI (fun v19 hv19 he1 => ?_)
  have : (1 : Int32).toInt = 1 := by decide
  have : ((x5 + 1) : Int32).toInt = (x5 : Int32).toInt + (1 : Int32).toInt := i32_add (by omega) (by omega)
  refine ok_nmI (fun v20 hv20 he2 => ?_)
  have := i32_rng v19
  exact hk33 σ x1 x2 x3 v19 v20 hI (by omega) (by omega) (by omega) (by omega) (by omega) (by omega) (by omega) (by omega) (by omega) (by omega) (by omega) (by omega)

theorem sX12_moves_98 {g : Nat} (k33 : S2 → Int32 → Int32 → Int32 → Int32 → Int32 → Option (Int32 × S2)) (σ : S2) (x1 : Int32) (x2 : Int32) (x3 : Int32) (x5 : Int32) (s0 : Int32) (hI : IvM g σ) (p9000 : 0 ≤ x1.toInt) (p9001 : x1.toInt ≤ 9) (p9002 : 0 ≤ x2.toInt) (p9003 : x2.toInt ≤ 9) (p9004 : 0 ≤ x3.toInt) (p9005 : x3.toInt ≤ 1) (p9006 : 0 ≤ x5.toInt) (p9007 : x5.toInt ≤ 11) (p9008 : 0 ≤ s0.toInt) (p9009 : (x1.toInt < (σ.1 0 9).toInt ∨ (x1.toInt = 10 ∧ g = 0))) (p9010 : (x2.toInt < (σ.1 0 9).toInt ∨ (x2.toInt = 10 ∧ g = 0))) (hk33 : ∀ (y0 : S2) (y1 : Int32) (y2 : Int32) (y3 : Int32) (y4 : Int32) (y5 : Int32), IvM g y0 → 0 ≤ y1.toInt → y1.toInt ≤ 9 → 0 ≤ y2.toInt → y2.toInt ≤ 9 → 0 ≤ y3.toInt → y3.toInt ≤ 1 → 0 ≤ y4.toInt → 0 ≤ y5.toInt → y5.toInt ≤ 12 → (y1.toInt < (y0.1 0 9).toInt ∨ (y1.toInt = 10 ∧ g = 0)) → (y2.toInt < (y0.1 0 9).toInt ∨ (y2.toInt = 10 ∧ g = 0)) → x5.toInt + 1 ≤ y5.toInt → Ok (fun z => IvM g z.2) (k33 y0 y1 y2 y3 y4 y5)) : Ok (fun z => IvM g z.2) (fX12_moves_98 k33 σ x1 x2 x3 x5 s0) := by
  have hFU : ((FU : Nat) : Int) = 100000 := rfl
  unfold fX12_moves_98
  have : (0 : Int32).toInt = 0 := by decide
  have := i32_rng s0
  exact sX12_moves_99 k33 σ x1 x2 x3 x5 0 s0 hI (by omega) (by omega) (by omega) (by omega) (by omega) (by omega) (by omega) (by omega) (by omega) (by omega) (by omega) (by omega) (by omega) (fun y0 y1 y2 y3 y4 y5 q0 q1 q2 q3 q4 q5 q6 q7 q8 q9 q10 q11 q12 => hk33 y0 y1 y2 y3 y4 y5 q0 q1 q2 q3 q4 q5 q6 q7 q8 q9 q10 q11 (by omega))

theorem sX12_moves_33 {g : Nat} : ∀ (n : Nat) (σ : S2) (x1 : Int32) (x2 : Int32) (x3 : Int32) (x4 : Int32) (x5 : Int32), IvM g σ → 0 ≤ x1.toInt → x1.toInt ≤ 9 → 0 ≤ x2.toInt → x2.toInt ≤ 9 → 0 ≤ x3.toInt → x3.toInt ≤ 1 → 0 ≤ x4.toInt → 0 ≤ x5.toInt → x5.toInt ≤ 12 → (x1.toInt < (σ.1 0 9).toInt ∨ (x1.toInt = 10 ∧ g = 0)) → (x2.toInt < (σ.1 0 9).toInt ∨ (x2.toInt = 10 ∧ g = 0)) → 12 - x5.toInt < (n : Int) → Ok (fun z => IvM g z.2) (fX12_moves_33 n σ x1 x2 x3 x4 x5) := by
  have hFU : ((FU : Nat) : Int) = 100000 := rfl
  intro n
  induction n with
  | zero => intro σ x1 x2 x3 x4 x5 hI p9000 p9001 p9002 p9003 p9004 p9005 p9006 p9007 p9008 p9009 p9010 hm; exfalso; omega
  | succ n ih =>
    intro σ x1 x2 x3 x4 x5 hI p9000 p9001 p9002 p9003 p9004 p9005 p9006 p9007 p9008 p9009 p9010 hm
    unfold fX12_moves_33
    have : 0 ≤ (σ.1 0 3).toInt ∧ (σ.1 0 3).toInt ≤ 12 := hI.1 0 3
    refine ok_le (fun h1 => ?_) (fun h1 => ?_)
    · have := i32_rng x4
      have : (0 : Int32).toInt = 0 := by decide
      exact sX12_moves_117 FU σ x1 x2 x3 x4 0 0 0 hI (by omega) (by omega) (by omega) (by omega) (by omega) (by omega) (by omega) (by omega) (by omega) (by omega) (by omega) (by omega)
    · refine ok_bi (sX12_isIn σ x1 x5 hI (by omega) (by omega) (by omega) (by omega)) (fun r21 hr2 => ?_)
      obtain ⟨p3, p4, p5⟩ := hr2
      have p3 : 0 ≤ r21.toInt := p3
      have p4 : r21.toInt ≤ 1 := p4
      have p5 : IiM σ x1 x5 r21 := p5
      have : (0 : Int32).toInt = 0 := by decide
      refine ok_eq (fun h6 => ?_) (fun h6 => ?_)
      · have := i32_rng x4
        exact sX12_moves_98 (fX12_moves_33 n) σ x1 x2 x3 x5 x4 hI (by omega) (by omega) (by omega) (by omega) (by omega) (by omega) (by omega) (by omega) (by omega) (by omega) (by omega) (fun y0 y1 y2 y3 y4 y5 q0 q1 q2 q3 q4 q5 q6 q7 q8 q9 q10 q11 q12 => ih y0 y1 y2 y3 y4 y5 q0 q1 q2 q3 q4 q5 q6 q7 q8 q9 q10 q11 (by omega))
      · refine ok_bi (sX12_isIn σ x2 x5 hI (by omega) (by omega) (by omega) (by omega)) (fun r23 hr7 => ?_)
        obtain ⟨p8, p9, p10⟩ := hr7
        have p8 : 0 ≤ r23.toInt := p8
        have p9 : r23.toInt ≤ 1 := p9
        have p10 : IiM σ x2 x5 r23 := p10
        refine ok_eq (fun h11 => ?_) (fun h11 => ?_)
        · have := i32_rng x4
          exact sX12_moves_98 (fX12_moves_33 n) σ x1 x2 x3 x5 x4 hI (by omega) (by omega) (by omega) (by omega) (by omega) (by omega) (by omega) (by omega) (by omega) (by omega) (by omega) (fun y0 y1 y2 y3 y4 y5 q0 q1 q2 q3 q4 q5 q6 q7 q8 q9 q10 q11 q12 => ih y0 y1 y2 y3 y4 y5 q0 q1 q2 q3 q4 q5 q6 q7 q8 q9 q10 q11 (by omega))
        · have : (12 : Int32).toInt = 12 := by decide
          have : ((12 * x1) : Int32).toInt = 12 * (x1 : Int32).toInt := i32_mulL (by omega) (by omega) (by omega)
          have : (((12 * x1) + x5) : Int32).toInt = ((12 * x1) : Int32).toInt + (x5 : Int32).toInt := i32_add (by omega) (by omega)
          refine ok_ck (by omega) (by omega) ?_
          have : 0 ≤ (σ.1 15 (Int32.toNatClampNeg ((12 * x1) + x5))).toInt ∧ (σ.1 15 (Int32.toNatClampNeg ((12 * x1) + x5))).toInt ≤ 16 := hI.1 15 (Int32.toNatClampNeg ((12 * x1) + x5))
          refine ok_nmI (fun v25 hv25 he12 => ?_)
          have : ((12 * x2) : Int32).toInt = 12 * (x2 : Int32).toInt := i32_mulL (by omega) (by omega) (by omega)
          have : (((12 * x2) + x5) : Int32).toInt = ((12 * x2) : Int32).toInt + (x5 : Int32).toInt := i32_add (by omega) (by omega)
          refine ok_ck (by omega) (by omega) ?_
          have : 0 ≤ (σ.1 15 (Int32.toNatClampNeg ((12 * x2) + x5))).toInt ∧ (σ.1 15 (Int32.toNatClampNeg ((12 * x2) + x5))).toInt ≤ 16 := hI.1 15 (Int32.toNatClampNeg ((12 * x2) + x5))
          refine ok_nmI (fun v26 hv26 he13 => ?_)
          refine ok_eq (fun h14 => ?_) (fun h14 => ?_)
          · have : (1 : Int32).toInt = 1 := by decide
            have : (31 : Int32).toInt = 31 := by decide
            have := i32_andR (a := x5) (m := 31) (by omega)
            have := i32_andL (a := x5) (m := 31) (by omega)
            have : 1 ≤ ((1 <<< (x5 &&& 31)) : Int32).toInt ∧ ((1 <<< (x5 &&& 31)) : Int32).toInt ≤ 2048 := i32_shlB 11 (by omega) (by omega) (by decide)
            have := i32_rng x4
            exact sX12_moves_99 (fX12_moves_33 n) σ x1 x2 x3 x5 (1 <<< (x5 &&& 31)) x4 hI (by omega) (by omega) (by omega) (by omega) (by omega) (by omega) (by omega) (by omega) (by omega) (by omega) (by omega) (by omega) (by omega) (fun y0 y1 y2 y3 y4 y5 q0 q1 q2 q3 q4 q5 q6 q7 q8 q9 q10 q11 q12 => ih y0 y1 y2 y3 y4 y5 q0 q1 q2 q3 q4 q5 q6 q7 q8 q9 q10 q11 (by omega))
          · have := i32_rng x4
            exact sX12_moves_98 (fX12_moves_33 n) σ x1 x2 x3 x5 x4 hI (by omega) (by omega) (by omega) (by omega) (by omega) (by omega) (by omega) (by omega) (by omega) (by omega) (by omega) (fun y0 y1 y2 y3 y4 y5 q0 q1 q2 q3 q4 q5 q6 q7 q8 q9 q10 q11 q12 => ih y0 y1 y2 y3 y4 y5 q0 q1 q2 q3 q4 q5 q6 q7 q8 q9 q10 q11 (by omega))

theorem sX12_moves_0 {g : Nat} (σ : S2) (x1 : Int32) (x2 : Int32) (x3 : Int32) (hI : IvM g σ)   : Ok (fun z => IvM g z.2) (fX12_moves_0 σ x1 x2 x3) := by
  have hFU : ((FU : Nat) : Int) = 100000 := rfl
  unfold fX12_moves_0
  have := i32_rng x1
  refine ok_bi (sX12_isTable σ x1 hI) (fun r27 hr1 => ?_)
  obtain ⟨p2, p3, p4⟩ := hr1
  have p2 : 0 ≤ r27.toInt := p2
  have p3 : r27.toInt ≤ 1 := p3
  have p4 : r27.toInt ≠ 0 → 0 ≤ x1.toInt ∧ x1.toInt < (σ.1 0 9).toInt := p4
  have : 0 ≤ (σ.1 0 9).toInt ∧ (σ.1 0 9).toInt ≤ 10 := hI.1 0 9
  have : (0 : Int32).toInt = 0 := by decide
  refine ok_eq (fun h5 => ?_) (fun h5 => ?_)
  · have : ((-1) : Int32).toInt = (-1) := by decide
    exact ok_some hI
  · have := i32_rng x2
    refine ok_bi (sX12_isTable σ x2 hI) (fun r29 hr6 => ?_)
    obtain ⟨p7, p8, p9⟩ := hr6
    have p7 : 0 ≤ r29.toInt := p7
    have p8 : r29.toInt ≤ 1 := p8
    have p9 : r29.toInt ≠ 0 → 0 ≤ x2.toInt ∧ x2.toInt < (σ.1 0 9).toInt := p9
    refine ok_eq (fun h10 => ?_) (fun h10 => ?_)
    · have : ((-1) : Int32).toInt = (-1) := by decide
      exact ok_some hI
    · have := i32_rng x3
      have : (1 : Int32).toInt = 1 := by decide
      refine ok_bi (sX12_in σ x3 0 1 hI (by omega) (by omega) (by omega) (by omega)) (fun r31 hr11 => ?_)
      obtain ⟨p12, p13, p14⟩ := hr11
      have p12 : 0 ≤ r31.toInt := p12
      have p13 : r31.toInt ≤ 1 := p13
      have p14 : r31.toInt ≠ 0 → (0 : Int32).toInt ≤ x3.toInt ∧ x3.toInt ≤ (1 : Int32).toInt := p14
      refine ok_eq (fun h15 => ?_) (fun h15 => ?_)
      · have : ((-1) : Int32).toInt = (-1) := by decide
        exact ok_some hI
      · exact sX12_moves_33 FU σ x1 x2 x3 0 0 hI (by omega) (by omega) (by omega) (by omega) (by omega) (by omega) (by omega) (by omega) (by omega) (by omega) (by omega) (by omega)

theorem sX12_moves {g : Nat} (σ : S2) (a1 : Int32) (a2 : Int32) (a3 : Int32) (hI : IvM g σ)   : Ok (fun z => IvM g z.2) (fX12_moves σ a1 a2 a3) := by
  unfold fX12_moves
  exact sX12_moves_0 σ a1 a2 a3 hI

theorem sX12_knows_0 {g : Nat} (σ : S2) (x1 : Int32) (x2 : Int32) (hI : IvM g σ)   : Ok (fun z => IvM g z.2 ∧ (-2000000000) ≤ z.1.toInt ∧ z.1.toInt ≤ 9) (fX12_knows_0 σ x1 x2) := by
  have hFU : ((FU : Nat) : Int) = 100000 := rfl
  unfold fX12_knows_0
  have := i32_rng x1
  refine ok_bi (sX12_isKeeper σ x1 hI) (fun r1 hr1 => ?_)
  obtain ⟨p2, p3, p4⟩ := hr1
  have p2 : 0 ≤ r1.toInt := p2
  have p3 : r1.toInt ≤ 1 := p3
  have p4 : r1.toInt ≠ 0 → 0 ≤ x1.toInt ∧ x1.toInt < (σ.1 0 3).toInt := p4
  have : 0 ≤ (σ.1 0 3).toInt ∧ (σ.1 0 3).toInt ≤ 12 := hI.1 0 3
  have : (0 : Int32).toInt = 0 := by decide
  refine ok_eq (fun h5 => ?_) (fun h5 => ?_)
  · have : ((-2000000000) : Int32).toInt = (-2000000000) := by decide
    exact ok_some ⟨hI, by show (-2000000000) ≤ ((-2000000000) : Int32).toInt; omega, by show ((-2000000000) : Int32).toInt ≤ 9; omega⟩
  · have := i32_rng x2
    have : ((-1) : Int32).toInt = (-1) := by decide
    have : 0 ≤ (σ.1 0 9).toInt ∧ (σ.1 0 9).toInt ≤ 10 := hI.1 0 9
    have : (1 : Int32).toInt = 1 := by decide
    have : (((σ.1 0 9) - 1) : Int32).toInt = ((σ.1 0 9) : Int32).toInt - (1 : Int32).toInt := i32_sub (by omega) (by omega)
    refine ok_bi (sX12_in σ x2 (-1) ((σ.1 0 9) - 1) hI (by omega) (by omega) (by omega) (by omega)) (fun r3 hr6 => ?_)
    obtain ⟨p7, p8, p9⟩ := hr6
    have p7 : 0 ≤ r3.toInt := p7
    have p8 : r3.toInt ≤ 1 := p8
    have p9 : r3.toInt ≠ 0 → ((-1) : Int32).toInt ≤ x2.toInt ∧ x2.toInt ≤ ((σ.1 0 9) - 1).toInt := p9
    refine ok_eq (fun h10 => ?_) (fun h10 => ?_)
    · have : ((-2000000000) : Int32).toInt = (-2000000000) := by decide
      exact ok_some ⟨hI, by show (-2000000000) ≤ ((-2000000000) : Int32).toInt; omega, by show ((-2000000000) : Int32).toInt ≤ 9; omega⟩
    · refine ok_ck (by omega) (by omega) ?_
      have : (-1) ≤ (σ.1 6 (Int32.toNatClampNeg x1)).toInt ∧ (σ.1 6 (Int32.toNatClampNeg x1)).toInt ≤ 9 := hI.1 6 (Int32.toNatClampNeg x1); have : (σ.1 6 (Int32.toNatClampNeg x1)).toInt < (σ.1 0 9).toInt := hI.2.2.2.1 (Int32.toNatClampNeg x1)
      refine ok_nmI (fun v5 hv5 he11 => ?_)
      refine ok_ck (by omega) (by omega) ?_
      refine ok_nm (fun σ6 hs12 => ?_)
      have hI13 : IvM g σ6 := by rw [hs12]; exact IvM.w6 hI (by omega) (show (-1) ≤ (x2 : Int32).toInt by omega) (show (x2 : Int32).toInt ≤ 9 by omega)
      have : (σ6.1 0 9).toInt = (σ.1 0 9).toInt := by rw [hs12]; rfl
      exact ok_some ⟨hI13, by show (-2000000000) ≤ v5.toInt; omega, by show v5.toInt ≤ 9; omega⟩

theorem sX12_knows {g : Nat} (σ : S2) (a1 : Int32) (a2 : Int32) (hI : IvM g σ)   : Ok (fun z => IvM g z.2 ∧ (-2000000000) ≤ z.1.toInt ∧ z.1.toInt ≤ 9) (fX12_knows σ a1 a2) := by
  unfold fX12_knows
  exact sX12_knows_0 σ a1 a2 hI

theorem sX12_isAwake_0 {g : Nat} (σ : S2) (x1 : Int32) (hI : IvM g σ) (p9000 : 0 ≤ x1.toInt) (p9001 : x1.toInt ≤ 11)  : Ok (fun z => 0 ≤ z.toInt ∧ z.toInt ≤ 1) (fX12_isAwake_0 σ x1) := by
  have hFU : ((FU : Nat) : Int) = 100000 := rfl
  unfold fX12_isAwake_0
  refine ok_ck (by omega) (by omega) ?_
  have : 0 ≤ (σ.1 5 (Int32.toNatClampNeg x1)).toInt ∧ (σ.1 5 (Int32.toNatClampNeg x1)).toInt ≤ 6 := hI.1 5 (Int32.toNatClampNeg x1)
  refine ok_nmI (fun v1 hv1 he1 => ?_)
  have : (4 : Int32).toInt = 4 := by decide
  refine ok_eq (fun h2 => ?_) (fun h2 => ?_)
  · have : (0 : Int32).toInt = 0 := by decide
    exact ok_some ⟨by show 0 ≤ (0 : Int32).toInt; omega, by show (0 : Int32).toInt ≤ 1; omega⟩
  · refine ok_ck (by omega) (by omega) ?_
    have : 0 ≤ (σ.1 7 (Int32.toNatClampNeg x1)).toInt ∧ (σ.1 7 (Int32.toNatClampNeg x1)).toInt ≤ 1 := hI.1 7 (Int32.toNatClampNeg x1)
    refine ok_nmI (fun v2 hv2 he3 => ?_)
    have : (0 : Int32).toInt = 0 := by decide
    refine ok_eq (fun h4 => ?_) (fun h4 => ?_)
    · have : (1 : Int32).toInt = 1 := by decide
      exact ok_some ⟨by show 0 ≤ (1 : Int32).toInt; omega, by show (1 : Int32).toInt ≤ 1; omega⟩
    · exact ok_some ⟨by show 0 ≤ (0 : Int32).toInt; omega, by show (0 : Int32).toInt ≤ 1; omega⟩

theorem sX12_isAwake {g : Nat} (σ : S2) (a1 : Int32) (hI : IvM g σ) (p9000 : 0 ≤ a1.toInt) (p9001 : a1.toInt ≤ 11)  : Ok (fun z => 0 ≤ z.toInt ∧ z.toInt ≤ 1) (fX12_isAwake σ a1) := by
  unfold fX12_isAwake
  exact sX12_isAwake_0 σ a1 hI (by assumption) (by assumption)

theorem sX12_hasRoom_36 {g : Nat} (σ : S2) (hI : IvM g σ)   : Ok (fun z => 0 ≤ z.toInt ∧ z.toInt ≤ 1) (fX12_hasRoom_36 σ) := by
  have hFU : ((FU : Nat) : Int) = 100000 := rfl
  unfold fX12_hasRoom_36
  have : (1 : Int32).toInt = 1 := by decide
  exact ok_some ⟨by show 0 ≤ (1 : Int32).toInt; omega, by show (1 : Int32).toInt ≤ 1; omega⟩

theorem sX12_hasRoom_0 {g : Nat} (σ : S2) (x1 : Int32) (x2 : Int32) (hI : IvM g σ) (p9000 : 0 ≤ x1.toInt) (p9001 : x1.toInt ≤ 11) (p9002 : 0 ≤ x2.toInt) (p9003 : x2.toInt ≤ 39)  : Ok (fun z => 0 ≤ z.toInt ∧ z.toInt ≤ 1) (fX12_hasRoom_0 σ x1 x2) := by
  have hFU : ((FU : Nat) : Int) = 100000 := rfl
  unfold fX12_hasRoom_0
  refine ok_ck (by omega) (by omega) ?_
  have : 0 ≤ (σ.1 5 (Int32.toNatClampNeg x1)).toInt ∧ (σ.1 5 (Int32.toNatClampNeg x1)).toInt ≤ 6 := hI.1 5 (Int32.toNatClampNeg x1)
  refine ok_nmI (fun v1 hv1 he1 => ?_)
  have : (6 : Int32).toInt = 6 := by decide
  refine ok_eq (fun h2 => ?_) (fun h2 => ?_)
  · have : (40 : Int32).toInt = 40 := by decide
    have : ((40 * x1) : Int32).toInt = 40 * (x1 : Int32).toInt := i32_mulL (by omega) (by omega) (by omega)
    have : (((40 * x1) + x2) : Int32).toInt = ((40 * x1) : Int32).toInt + (x2 : Int32).toInt := i32_add (by omega) (by omega)
    refine ok_ck (by omega) (by omega) ?_
    have := i32_rng (σ.1 20 (Int32.toNatClampNeg ((40 * x1) + x2)))
    refine ok_nmI (fun v2 hv2 he3 => ?_)
    have : (0 : Int32).toInt = 0 := by decide
    have := i32_rng v2
    refine ok_lt (fun h4 => ?_) (fun h4 => ?_)
    · exact sX12_hasRoom_36 σ hI
    · have : (1 : Int32).toInt = 1 := by decide
      refine ok_bi (sX12_many σ x1 1 hI (by omega) (by omega) (by omega) (by omega)) (fun r3 hr5 => ?_)
      have : (8 : Int32).toInt = 8 := by decide
      have := i32_rng r3
      refine ok_le (fun h6 => ?_) (fun h6 => ?_)
      · exact ok_some ⟨by show 0 ≤ (0 : Int32).toInt; omega, by show (0 : Int32).toInt ≤ 1; omega⟩
      · exact sX12_hasRoom_36 σ hI
  · exact sX12_hasRoom_36 σ hI

theorem sX12_hasRoom {g : Nat} (σ : S2) (a1 : Int32) (a2 : Int32) (hI : IvM g σ) (p9000 : 0 ≤ a1.toInt) (p9001 : a1.toInt ≤ 11) (p9002 : 0 ≤ a2.toInt) (p9003 : a2.toInt ≤ 39)  : Ok (fun z => 0 ≤ z.toInt ∧ z.toInt ≤ 1) (fX12_hasRoom σ a1 a2) := by
  unfold fX12_hasRoom
  exact sX12_hasRoom_0 σ a1 a2 hI (by assumption) (by assumption) (by assumption) (by assumption)

theorem sX12_keeps_90 {g : Nat} (k3 : S2 → Int32 → Int32 → Int32 → Int32 → Int32 → Option (Int32 × S2)) (σ : S2) (x1 : Int32) (x2 : Int32) (x3 : Int32) (x4 : Int32) (x5 : Int32) (hI : IvM g σ) (p9000 : 0 ≤ x1.toInt) (p9001 : x1.toInt ≤ 39) (p9002 : 0 ≤ x2.toInt) (p9003 : x2.toInt ≤ 11) (p9004 : 0 ≤ x3.toInt) (p9005 : x3.toInt ≤ 4095) (p9006 : 0 ≤ x5.toInt) (p9007 : x5.toInt ≤ 11) (hk3 : ∀ (y0 : S2) (y1 : Int32) (y2 : Int32) (y3 : Int32) (y4 : Int32) (y5 : Int32), IvM g y0 → 0 ≤ y1.toInt → y1.toInt ≤ 39 → 0 ≤ y2.toInt → y2.toInt ≤ 11 → 0 ≤ y3.toInt → y3.toInt ≤ 4095 → 0 ≤ y5.toInt → y5.toInt ≤ 12 → x5.toInt + 1 ≤ y5.toInt → Ok (fun z => IvM g z.2 ∧ 0 ≤ z.1.toInt ∧ z.1.toInt ≤ 1) (k3 y0 y1 y2 y3 y4 y5)) : Ok (fun z => IvM g z.2 ∧ 0 ≤ z.1.toInt ∧ z.1.toInt ≤ 1) (fX12_keeps_90 k3 σ x1 x2 x3 x4 x5) := by
  have hFU : ((FU : Nat) : Int) = 100000 := rfl
  unfold fX12_keeps_90
  have : (1 : Int32).toInt = 1 := by decide
  have : ((x5 + 1) : Int32).toInt = (x5 : Int32).toInt + (1 : Int32).toInt := i32_add (by omega) (by omega)
  refine ok_nmI (fun v1 hv1 he1 => ?_)
  have := i32_rng x4
  exact hk3 σ x1 x2 x3 x4 v1 hI (by omega) (by omega) (by omega) (by omega) (by omega) (by omega) (by omega) (by omega) (by omega)

theorem sX12_keeps_71 {g : Nat} (σ : S2) (x2 : Int32) (x4 : Int32) (x7 : Int32) (hI : IvM g σ) (p9000 : 0 ≤ x2.toInt) (p9001 : x2.toInt ≤ 11) (p9002 : 0 ≤ x7.toInt) (p9003 : x7.toInt ≤ 479)  : Ok (fun z => IvM g z.2 ∧ 0 ≤ z.1.toInt ∧ z.1.toInt ≤ 1) (fX12_keeps_71 σ x2 x4 x7) := by
  have hFU : ((FU : Nat) : Int) = 100000 := rfl
  unfold fX12_keeps_71
  refine ok_ck (by omega) (by omega) ?_
  have := i32_rng x4
  refine ok_nm (fun σ2 hs1 => ?_)
  have hI2 : IvM g σ2 := by rw [hs1]; exact IvM.wI hI rfl (i32_rng _).1 (i32_rng _).2
  refine ok_ck (by omega) (by omega) ?_
  refine ok_nm (fun σ3 hs3 => ?_)
  have hI4 : IvM g σ3 := by rw [hs3]; exact IvM.wI hI2 rfl (show (-2) ≤ (x2 : Int32).toInt by omega) (show (x2 : Int32).toInt ≤ 11 by omega)
  have : (1 : Int32).toInt = 1 := by decide
  exact ok_some ⟨hI4, by show 0 ≤ (1 : Int32).toInt; omega, by show (1 : Int32).toInt ≤ 1; omega⟩

theorem sX12_keeps_3 {g : Nat} : ∀ (n : Nat) (σ : S2) (x1 : Int32) (x2 : Int32) (x3 : Int32) (x4 : Int32) (x5 : Int32), IvM g σ → 0 ≤ x1.toInt → x1.toInt ≤ 39 → 0 ≤ x2.toInt → x2.toInt ≤ 11 → 0 ≤ x3.toInt → x3.toInt ≤ 4095 → 0 ≤ x5.toInt → x5.toInt ≤ 12 → 12 - x5.toInt < (n : Int) → Ok (fun z => IvM g z.2 ∧ 0 ≤ z.1.toInt ∧ z.1.toInt ≤ 1) (fX12_keeps_3 n σ x1 x2 x3 x4 x5) := by
  have hFU : ((FU : Nat) : Int) = 100000 := rfl
  intro n
  induction n with
  | zero => intro σ x1 x2 x3 x4 x5 hI p9000 p9001 p9002 p9003 p9004 p9005 p9006 p9007 hm; exfalso; omega
  | succ n ih =>
    intro σ x1 x2 x3 x4 x5 hI p9000 p9001 p9002 p9003 p9004 p9005 p9006 p9007 hm
    unfold fX12_keeps_3
    have : 0 ≤ (σ.1 0 53).toInt ∧ (σ.1 0 53).toInt ≤ 12 := hI.1 0 53
    refine ok_le (fun h1 => ?_) (fun h1 => ?_)
    · have : (0 : Int32).toInt = 0 := by decide
      exact ok_some ⟨hI, by show 0 ≤ (0 : Int32).toInt; omega, by show (0 : Int32).toInt ≤ 1; omega⟩
    · refine ok_ck (by omega) (by omega) ?_
      have : 0 ≤ (σ.1 35 (Int32.toNatClampNeg x5)).toInt ∧ (σ.1 35 (Int32.toNatClampNeg x5)).toInt ≤ 11 := hI.1 35 (Int32.toNatClampNeg x5)
      refine ok_nmI (fun v4 hv4 he2 => ?_)
      have : (40 : Int32).toInt = 40 := by decide
      have : ((40 * v4) : Int32).toInt = 40 * (v4 : Int32).toInt := i32_mulL (by omega) (by omega) (by omega)
      have : (((40 * v4) + x1) : Int32).toInt = ((40 * v4) : Int32).toInt + (x1 : Int32).toInt := i32_add (by omega) (by omega)
      refine ok_nmI (fun v5 hv5 he3 => ?_)
      have : (31 : Int32).toInt = 31 := by decide
      have := i32_andR (a := v4) (m := 31) (by omega)
      have := i32_andL (a := v4) (m := 31) (by omega)
      have := i32_sar (a := x3) (k := (v4 &&& 31)) (by omega)
      have : (1 : Int32).toInt = 1 := by decide
      have := i32_andR (a := (x3 >>> (v4 &&& 31))) (m := 1) (by omega)
      have : (0 : Int32).toInt = 0 := by decide
      refine ok_eq (fun h4 => ?_) (fun h4 => ?_)
      · refine ok_bi (sX12_isAwake σ v4 hI (by omega) (by omega)) (fun r6 hr5 => ?_)
        obtain ⟨p6, p7⟩ := hr5
        have p6 : 0 ≤ r6.toInt := p6
        have p7 : r6.toInt ≤ 1 := p7
        refine ok_eq (fun h8 => ?_) (fun h8 => ?_)
        · have := i32_rng x4
          exact sX12_keeps_90 (fX12_keeps_3 n) σ x1 x2 x3 x4 x5 hI (by omega) (by omega) (by omega) (by omega) (by omega) (by omega) (by omega) (by omega) (fun y0 y1 y2 y3 y4 y5 q0 q1 q2 q3 q4 q5 q6 q7 q8 q9 => ih y0 y1 y2 y3 y4 y5 q0 q1 q2 q3 q4 q5 q6 q7 q8 (by omega))
        · refine ok_ck (by omega) (by omega) ?_
          have : (-2) ≤ (σ.1 22 (Int32.toNatClampNeg v5)).toInt ∧ (σ.1 22 (Int32.toNatClampNeg v5)).toInt ≤ 11 := hI.1 22 (Int32.toNatClampNeg v5)
          refine ok_nmI (fun v8 hv8 he9 => ?_)
          have : ((-2) : Int32).toInt = (-2) := by decide
          refine ok_eq (fun h10 => ?_) (fun h10 => ?_)
          · have := i32_rng x4
            exact sX12_keeps_71 σ x2 x4 v5 hI (by omega) (by omega) (by omega) (by omega)
          · refine ok_ck (by omega) (by omega) ?_
            refine ok_nmI (fun v9 hv9 he11 => ?_)
            refine ok_eq (fun h12 => ?_) (fun h12 => ?_)
            · have := i32_rng x4
              exact sX12_keeps_71 σ x2 x4 v5 hI (by omega) (by omega) (by omega) (by omega)
            · have := i32_rng x4
              exact sX12_keeps_90 (fX12_keeps_3 n) σ x1 x2 x3 x4 x5 hI (by omega) (by omega) (by omega) (by omega) (by omega) (by omega) (by omega) (by omega) (fun y0 y1 y2 y3 y4 y5 q0 q1 q2 q3 q4 q5 q6 q7 q8 q9 => ih y0 y1 y2 y3 y4 y5 q0 q1 q2 q3 q4 q5 q6 q7 q8 (by omega))
      · have := i32_rng x4
        exact sX12_keeps_90 (fX12_keeps_3 n) σ x1 x2 x3 x4 x5 hI (by omega) (by omega) (by omega) (by omega) (by omega) (by omega) (by omega) (by omega) (fun y0 y1 y2 y3 y4 y5 q0 q1 q2 q3 q4 q5 q6 q7 q8 q9 => ih y0 y1 y2 y3 y4 y5 q0 q1 q2 q3 q4 q5 q6 q7 q8 (by omega))

theorem sX12_keeps_0 {g : Nat} (σ : S2) (x1 : Int32) (x2 : Int32) (x3 : Int32) (x4 : Int32) (hI : IvM g σ) (p9000 : 0 ≤ x1.toInt) (p9001 : x1.toInt ≤ 39) (p9002 : 0 ≤ x2.toInt) (p9003 : x2.toInt ≤ 11) (p9004 : 0 ≤ x3.toInt) (p9005 : x3.toInt ≤ 4095)  : Ok (fun z => IvM g z.2 ∧ 0 ≤ z.1.toInt ∧ z.1.toInt ≤ 1) (fX12_keeps_0 σ x1 x2 x3 x4) := by
  have hFU : ((FU : Nat) : Int) = 100000 := rfl
  unfold fX12_keeps_0
  have := i32_rng x4
  have : (0 : Int32).toInt = 0 := by decide
  exact sX12_keeps_3 FU σ x1 x2 x3 x4 0 hI (by omega) (by omega) (by omega) (by omega) (by omega) (by omega) (by omega) (by omega) (by omega)

theorem sX12_keeps {g : Nat} (σ : S2) (a1 : Int32) (a2 : Int32) (a3 : Int32) (a4 : Int32) (hI : IvM g σ) (p9000 : 0 ≤ a1.toInt) (p9001 : a1.toInt ≤ 39) (p9002 : 0 ≤ a2.toInt) (p9003 : a2.toInt ≤ 11) (p9004 : 0 ≤ a3.toInt) (p9005 : a3.toInt ≤ 4095)  : Ok (fun z => IvM g z.2 ∧ 0 ≤ z.1.toInt ∧ z.1.toInt ≤ 1) (fX12_keeps σ a1 a2 a3 a4) := by
  unfold fX12_keeps
  exact sX12_keeps_0 σ a1 a2 a3 a4 hI (by assumption) (by assumption) (by assumption) (by assumption) (by assumption) (by assumption)

theorem sX12_write_175 {g : Nat} (k80 : S2 → Int32 → Int32 → Int32 → Int32 → Option (Int32 × S2)) (σ : S2) (x2 : Int32) (x3 : Int32) (x4 : Int32) (x5 : Int32) (hI : IvM g σ) (p9000 : 0 ≤ x2.toInt) (p9001 : x2.toInt ≤ 39) (p9002 : 0 ≤ x3.toInt) (p9003 : x3.toInt ≤ 4095) (p9004 : 0 ≤ x5.toInt) (p9005 : x5.toInt ≤ 3) (hk80 : ∀ (y0 : S2) (y1 : Int32) (y2 : Int32) (y3 : Int32) (y4 : Int32), IvM g y0 → 0 ≤ y1.toInt → y1.toInt ≤ 39 → 0 ≤ y2.toInt → y2.toInt ≤ 4095 → 0 ≤ y4.toInt → y4.toInt ≤ 4 → x5.toInt + 1 ≤ y4.toInt → Ok (fun z => IvM g z.2) (k80 y0 y1 y2 y3 y4)) : Ok (fun z => IvM g z.2) (fX12_write_175 k80 σ x2 x3 x4 x5) := by
  have hFU : ((FU : Nat) : Int) = 100000 := rfl
  unfold fX12_write_175
  have : (1 : Int32).toInt = 1 := by decide
  have : ((x5 + 1) : Int32).toInt = (x5 : Int32).toInt + (1 : Int32).toInt := i32_add (by omega) (by omega)
  refine ok_nmI (fun v1 hv1 he1 => ?_)
  have := i32_rng x4
  exact hk80 σ x2 x3 x4 v1 hI (by omega) (by omega) (by omega) (by omega) (by omega) (by omega) (by omega)

theorem sX12_write_80 {g : Nat} : ∀ (n : Nat) (σ : S2) (x2 : Int32) (x3 : Int32) (x4 : Int32) (x5 : Int32), IvM g σ → 0 ≤ x2.toInt → x2.toInt ≤ 39 → 0 ≤ x3.toInt → x3.toInt ≤ 4095 → 0 ≤ x5.toInt → x5.toInt ≤ 4 → 4 - x5.toInt < (n : Int) → Ok (fun z => IvM g z.2) (fX12_write_80 n σ x2 x3 x4 x5) := by
  have hFU : ((FU : Nat) : Int) = 100000 := rfl
  intro n
  induction n with
  | zero => intro σ x2 x3 x4 x5 hI p9000 p9001 p9002 p9003 p9004 p9005 hm; exfalso; omega
  | succ n ih =>
    intro σ x2 x3 x4 x5 hI p9000 p9001 p9002 p9003 p9004 p9005 hm
    unfold fX12_write_80
    have : 0 ≤ (σ.1 0 55).toInt ∧ (σ.1 0 55).toInt ≤ 4 := hI.1 0 55
    refine ok_le (fun h1 => ?_) (fun h1 => ?_)
    · have := i32_rng x4
      exact ok_some hI
    · refine ok_ck (by omega) (by omega) ?_
      have : 0 ≤ (σ.1 36 (Int32.toNatClampNeg x5)).toInt ∧ (σ.1 36 (Int32.toNatClampNeg x5)).toInt ≤ 11 := hI.1 36 (Int32.toNatClampNeg x5)
      refine ok_nmI (fun v2 hv2 he2 => ?_)
      refine ok_ck (by omega) (by omega) ?_
      have : 0 ≤ (σ.1 7 (Int32.toNatClampNeg v2)).toInt ∧ (σ.1 7 (Int32.toNatClampNeg v2)).toInt ≤ 1 := hI.1 7 (Int32.toNatClampNeg v2)
      refine ok_nmI (fun v3 hv3 he3 => ?_)
      have : (0 : Int32).toInt = 0 := by decide
      refine ok_eq (fun h4 => ?_) (fun h4 => ?_)
      · refine ok_ck (by omega) (by omega) ?_
        have : 0 ≤ (σ.1 5 (Int32.toNatClampNeg v2)).toInt ∧ (σ.1 5 (Int32.toNatClampNeg v2)).toInt ≤ 6 := hI.1 5 (Int32.toNatClampNeg v2)
        refine ok_nmI (fun v4 hv4 he5 => ?_)
        have : (4 : Int32).toInt = 4 := by decide
        refine ok_eq (fun h6 => ?_) (fun h6 => ?_)
        · refine ok_ck (by omega) (by omega) ?_
          have := i32_rng (σ.1 25 (Int32.toNatClampNeg x2))
          refine ok_nmI (fun v10 hv10 he7 => ?_)
          have := i32_rng v10
          refine ok_bs (sX12_keeps σ x2 v2 x3 v10 hI (by omega) (by omega) (by omega) (by omega) (by omega) (by omega)) (fun r11 σ12 hr8 => ?_)
          obtain ⟨p9, p10, p11⟩ := hr8
          have p9 : IvM g σ12 := p9
          have p10 : 0 ≤ r11.toInt := p10
          have p11 : r11.toInt ≤ 1 := p11
          have := i32_rng x4
          have := i32_rng (x4 + r11)
          refine ok_nmI (fun v14 hv14 he12 => ?_)
          have := i32_rng v14
          exact sX12_write_175 (fX12_write_80 n) σ12 x2 x3 v14 x5 p9 (by omega) (by omega) (by omega) (by omega) (by omega) (by omega) (fun y0 y1 y2 y3 y4 q0 q1 q2 q3 q4 q5 q6 q7 => ih y0 y1 y2 y3 y4 q0 q1 q2 q3 q4 q5 q6 (by omega))
        · refine ok_bi (sX12_hasRoom σ v2 x2 hI (by omega) (by omega) (by omega) (by omega)) (fun r5 hr13 => ?_)
          obtain ⟨p14, p15⟩ := hr13
          have p14 : 0 ≤ r5.toInt := p14
          have p15 : r5.toInt ≤ 1 := p15
          refine ok_eq (fun h16 => ?_) (fun h16 => ?_)
          · have := i32_rng x4
            exact sX12_write_175 (fX12_write_80 n) σ x2 x3 x4 x5 hI (by omega) (by omega) (by omega) (by omega) (by omega) (by omega) (fun y0 y1 y2 y3 y4 q0 q1 q2 q3 q4 q5 q6 q7 => ih y0 y1 y2 y3 y4 q0 q1 q2 q3 q4 q5 q6 (by omega))
          · refine ok_ck (by omega) (by omega) ?_
            have := i32_rng (σ.1 25 (Int32.toNatClampNeg x2))
            refine ok_nmI (fun v7 hv7 he17 => ?_)
            have : (40 : Int32).toInt = 40 := by decide
            have : ((40 * v2) : Int32).toInt = 40 * (v2 : Int32).toInt := i32_mulL (by omega) (by omega) (by omega)
            have : (((40 * v2) + x2) : Int32).toInt = ((40 * v2) : Int32).toInt + (x2 : Int32).toInt := i32_add (by omega) (by omega)
            refine ok_ck (by omega) (by omega) ?_
            have := i32_rng v7
            refine ok_nm (fun σ8 hs18 => ?_)
            have hI19 : IvM g σ8 := by rw [hs18]; exact IvM.wI hI rfl (i32_rng _).1 (i32_rng _).2
            have : (σ8.1 0 9).toInt = (σ.1 0 9).toInt := by rw [hs18]; rfl
            have : (σ8.1 0 55).toInt = (σ.1 0 55).toInt := by rw [hs18]; rfl
            have : (σ8.1 36 (Int32.toNatClampNeg x5)).toInt = (σ.1 36 (Int32.toNatClampNeg x5)).toInt := by rw [hs18]; rfl
            have : (σ8.1 7 (Int32.toNatClampNeg v2)).toInt = (σ.1 7 (Int32.toNatClampNeg v2)).toInt := by rw [hs18]; rfl
            have : (σ8.1 5 (Int32.toNatClampNeg v2)).toInt = (σ.1 5 (Int32.toNatClampNeg v2)).toInt := by rw [hs18]; rfl
            have := i32_rng x4
            have : (1 : Int32).toInt = 1 := by decide
            have := i32_rng (x4 + 1)
            refine ok_nmI (fun v9 hv9 he20 => ?_)
            have := i32_rng v9
            exact sX12_write_175 (fX12_write_80 n) σ8 x2 x3 v9 x5 hI19 (by omega) (by omega) (by omega) (by omega) (by omega) (by omega) (fun y0 y1 y2 y3 y4 q0 q1 q2 q3 q4 q5 q6 q7 => ih y0 y1 y2 y3 y4 q0 q1 q2 q3 q4 q5 q6 (by omega))
      · have := i32_rng x4
        exact sX12_write_175 (fX12_write_80 n) σ x2 x3 x4 x5 hI (by omega) (by omega) (by omega) (by omega) (by omega) (by omega) (fun y0 y1 y2 y3 y4 q0 q1 q2 q3 q4 q5 q6 q7 => ih y0 y1 y2 y3 y4 q0 q1 q2 q3 q4 q5 q6 (by omega))

theorem sX12_write_0 {g : Nat} (σ : S2) (x1 : Int32) (x2 : Int32) (hI : IvM g σ)   : Ok (fun z => IvM g z.2) (fX12_write_0 σ x1 x2) := by
  have hFU : ((FU : Nat) : Int) = 100000 := rfl
  unfold fX12_write_0
  have := i32_rng x1
  refine ok_bi (sX12_isKeeper σ x1 hI) (fun r15 hr1 => ?_)
  obtain ⟨p2, p3, p4⟩ := hr1
  have p2 : 0 ≤ r15.toInt := p2
  have p3 : r15.toInt ≤ 1 := p3
  have p4 : r15.toInt ≠ 0 → 0 ≤ x1.toInt ∧ x1.toInt < (σ.1 0 3).toInt := p4
  have : 0 ≤ (σ.1 0 3).toInt ∧ (σ.1 0 3).toInt ≤ 12 := hI.1 0 3
  have : (0 : Int32).toInt = 0 := by decide
  refine ok_eq (fun h5 => ?_) (fun h5 => ?_)
  · have : ((-1) : Int32).toInt = (-1) := by decide
    exact ok_some hI
  · have := i32_rng x2
    refine ok_bi (sX12_isName σ x2 hI) (fun r17 hr6 => ?_)
    obtain ⟨p7, p8, p9⟩ := hr6
    have p7 : 0 ≤ r17.toInt := p7
    have p8 : r17.toInt ≤ 1 := p8
    have p9 : r17.toInt ≠ 0 → 0 ≤ x2.toInt ∧ x2.toInt < (σ.1 0 0).toInt := p9
    have : 0 ≤ (σ.1 0 0).toInt ∧ (σ.1 0 0).toInt ≤ 40 := hI.1 0 0
    refine ok_eq (fun h10 => ?_) (fun h10 => ?_)
    · have : ((-1) : Int32).toInt = (-1) := by decide
      exact ok_some hI
    · refine ok_ck (by omega) (by omega) ?_
      have : (-1) ≤ (σ.1 6 (Int32.toNatClampNeg x1)).toInt ∧ (σ.1 6 (Int32.toNatClampNeg x1)).toInt ≤ 9 := hI.1 6 (Int32.toNatClampNeg x1); have : (σ.1 6 (Int32.toNatClampNeg x1)).toInt < (σ.1 0 9).toInt := hI.2.2.2.1 (Int32.toNatClampNeg x1)
      refine ok_nmI (fun v19 hv19 he11 => ?_)
      refine ok_lt (fun h12 => ?_) (fun h12 => ?_)
      · have : ((-5) : Int32).toInt = (-5) := by decide
        exact ok_some hI
      · refine ok_bi (sX12_isAwake σ x1 hI (by omega) (by omega)) (fun r20 hr13 => ?_)
        obtain ⟨p14, p15⟩ := hr13
        have p14 : 0 ≤ r20.toInt := p14
        have p15 : r20.toInt ≤ 1 := p15
        refine ok_eq (fun h16 => ?_) (fun h16 => ?_)
        · have : ((-5) : Int32).toInt = (-5) := by decide
          exact ok_some hI
        · refine ok_ck (by omega) (by omega) ?_
          have := i32_rng (σ.1 25 (Int32.toNatClampNeg x2))
          refine ok_nmI (fun v22 hv22 he17 => ?_)
          refine ok_ck (by omega) (by omega) ?_
          have := i32_rng v22
          have : (1 : Int32).toInt = 1 := by decide
          have := i32_rng (v22 + 1)
          refine ok_nm (fun σ23 hs18 => ?_)
          have hI19 : IvM g σ23 := by rw [hs18]; exact IvM.wI hI rfl (i32_rng _).1 (i32_rng _).2
          have : (σ23.1 0 9).toInt = (σ.1 0 9).toInt := by rw [hs18]; rfl
          have : (σ23.1 6 (Int32.toNatClampNeg x1)).toInt = (σ.1 6 (Int32.toNatClampNeg x1)).toInt := by rw [hs18]; rfl
          have := i32_rng (σ23.1 0 29)
          have := i32_rng ((σ23.1 0 29) + 1)
          refine ok_nm (fun σ24 hs20 => ?_)
          have hI21 : IvM g σ24 := by rw [hs20]; exact IvM.wI hI19 rfl (i32_rng _).1 (i32_rng _).2
          have : (σ24.1 0 9).toInt = (σ23.1 0 9).toInt := by rw [hs20]; rfl
          have : (σ24.1 6 (Int32.toNatClampNeg x1)).toInt = (σ23.1 6 (Int32.toNatClampNeg x1)).toInt := by rw [hs20]; rfl
          refine ok_ck (by omega) (by omega) ?_
          have : (-1) ≤ (σ24.1 6 (Int32.toNatClampNeg x1)).toInt ∧ (σ24.1 6 (Int32.toNatClampNeg x1)).toInt ≤ 9 := hI21.1 6 (Int32.toNatClampNeg x1); have : (σ24.1 6 (Int32.toNatClampNeg x1)).toInt < (σ24.1 0 9).toInt := hI21.2.2.2.1 (Int32.toNatClampNeg x1)
          refine ok_nmI (fun v25 hv25 he22 => ?_)
          have : 0 ≤ (σ24.1 0 9).toInt ∧ (σ24.1 0 9).toInt ≤ 10 := hI21.1 0 9
          refine ok_bs (sX12_chooseName (σ24.1 0 9).toInt σ24 v25 x2 hI21 (by omega) (by omega) (by omega) (by omega) (by omega) (by omega)) (fun r26 σ27 hr23 => ?_)
          obtain ⟨p24, p25⟩ := hr23
          have p24 : IvM g σ27 := p24
          have p25 : (σ27.1 0 9).toInt = (σ24.1 0 9).toInt := p25
          refine ok_bi (sX12_bits σ27 p24) (fun r29 hr26 => ?_)
          obtain ⟨p27, p28⟩ := hr26
          have p27 : 0 ≤ r29.toInt := p27
          have p28 : r29.toInt ≤ 4095 := p28
          exact sX12_write_80 FU σ27 x2 r29 0 0 p24 (by omega) (by omega) (by omega) (by omega) (by omega) (by omega) (by omega)

theorem sX12_write {g : Nat} (σ : S2) (a1 : Int32) (a2 : Int32) (hI : IvM g σ)   : Ok (fun z => IvM g z.2) (fX12_write σ a1 a2) := by
  unfold fX12_write
  exact sX12_write_0 σ a1 a2 hI

theorem sX12_read_112 {g : Nat} (k54 : S2 → Int32 → Int32 → Int32 → Option (Int32 × S2)) (σ : S2) (x2 : Int32) (x4 : Int32) (s0 : Int32) (hI : IvM g σ) (p9000 : 0 ≤ x2.toInt) (p9001 : x2.toInt ≤ 39) (p9002 : 0 ≤ x4.toInt) (p9003 : x4.toInt ≤ 3) (p9004 : 0 ≤ s0.toInt) (hk54 : ∀ (y0 : S2) (y1 : Int32) (y2 : Int32) (y3 : Int32), IvM g y0 → 0 ≤ y1.toInt → y1.toInt ≤ 39 → 0 ≤ y2.toInt → 0 ≤ y3.toInt → y3.toInt ≤ 4 → x4.toInt + 1 ≤ y3.toInt → Ok (fun z => IvM g z.2 ∧ (-5) ≤ z.1.toInt) (k54 y0 y1 y2 y3)) : Ok (fun z => IvM g z.2 ∧ (-5) ≤ z.1.toInt) (fX12_read_112 k54 σ x2 x4 s0) := by
  have hFU : ((FU : Nat) : Int) = 100000 := rfl
  unfold fX12_read_112
  have : (1 : Int32).toInt = 1 := by decide
  have : ((x4 + 1) : Int32).toInt = (x4 : Int32).toInt + (1 : Int32).toInt := i32_add (by omega) (by omega)
  refine ok_nmI (fun v1 hv1 he1 => ?_)
  have := i32_rng s0
  exact hk54 σ x2 s0 v1 hI (by omega) (by omega) (by omega) (by omega) (by omega) (by omega)

theorem sX12_read_98 {g : Nat} (k54 : S2 → Int32 → Int32 → Int32 → Option (Int32 × S2)) (σ : S2) (x2 : Int32) (x3 : Int32) (x4 : Int32) (s0 : Int32) (hI : IvM g σ) (p9000 : 0 ≤ x2.toInt) (p9001 : x2.toInt ≤ 39) (p9002 : 0 ≤ x3.toInt) (p9003 : 0 ≤ x4.toInt) (p9004 : x4.toInt ≤ 3) (hk54 : ∀ (y0 : S2) (y1 : Int32) (y2 : Int32) (y3 : Int32), IvM g y0 → 0 ≤ y1.toInt → y1.toInt ≤ 39 → 0 ≤ y2.toInt → 0 ≤ y3.toInt → y3.toInt ≤ 4 → x4.toInt + 1 ≤ y3.toInt → Ok (fun z => IvM g z.2 ∧ (-5) ≤ z.1.toInt) (k54 y0 y1 y2 y3)) : Ok (fun z => IvM g z.2 ∧ (-5) ≤ z.1.toInt) (fX12_read_98 k54 σ x2 x3 x4 s0) := by
  have hFU : ((FU : Nat) : Int) = 100000 := rfl
  unfold fX12_read_98
  have := i32_rng s0
  have := i32_rng x3
  refine ok_le (fun h1 => ?_) (fun h1 => ?_)
  · exact sX12_read_112 k54 σ x2 x4 x3 hI (by omega) (by omega) (by omega) (by omega) (by omega) (fun y0 y1 y2 y3 q0 q1 q2 q3 q4 q5 q6 => hk54 y0 y1 y2 y3 q0 q1 q2 q3 q4 q5 (by omega))
  · exact sX12_read_112 k54 σ x2 x4 s0 hI (by omega) (by omega) (by omega) (by omega) (by omega) (fun y0 y1 y2 y3 q0 q1 q2 q3 q4 q5 q6 => hk54 y0 y1 y2 y3 q0 q1 q2 q3 q4 q5 (by omega))

theorem sX12_read_54 {g : Nat} : ∀ (n : Nat) (σ : S2) (x2 : Int32) (x3 : Int32) (x4 : Int32), IvM g σ → 0 ≤ x2.toInt → x2.toInt ≤ 39 → 0 ≤ x3.toInt → 0 ≤ x4.toInt → x4.toInt ≤ 4 → 4 - x4.toInt < (n : Int) → Ok (fun z => IvM g z.2 ∧ (-5) ≤ z.1.toInt) (fX12_read_54 n σ x2 x3 x4) := by
  have hFU : ((FU : Nat) : Int) = 100000 := rfl
  intro n
  induction n with
  | zero => intro σ x2 x3 x4 hI p9000 p9001 p9002 p9003 p9004 hm; exfalso; omega
  | succ n ih =>
    intro σ x2 x3 x4 hI p9000 p9001 p9002 p9003 p9004 hm
    unfold fX12_read_54
    have : 0 ≤ (σ.1 0 55).toInt ∧ (σ.1 0 55).toInt ≤ 4 := hI.1 0 55
    refine ok_le (fun h1 => ?_) (fun h1 => ?_)
    · have := i32_rng x3
      exact ok_some ⟨hI, by show (-5) ≤ x3.toInt; omega⟩
    · refine ok_ck (by omega) (by omega) ?_
      have : 0 ≤ (σ.1 36 (Int32.toNatClampNeg x4)).toInt ∧ (σ.1 36 (Int32.toNatClampNeg x4)).toInt ≤ 11 := hI.1 36 (Int32.toNatClampNeg x4)
      refine ok_nmI (fun v2 hv2 he2 => ?_)
      refine ok_bi (sX12_isAwake σ v2 hI (by omega) (by omega)) (fun r3 hr3 => ?_)
      obtain ⟨p4, p5⟩ := hr3
      have p4 : 0 ≤ r3.toInt := p4
      have p5 : r3.toInt ≤ 1 := p5
      have : (0 : Int32).toInt = 0 := by decide
      refine ok_eq (fun h6 => ?_) (fun h6 => ?_)
      · have := i32_rng x3
        exact sX12_read_98 (fX12_read_54 n) σ x2 x3 x4 0 hI (by omega) (by omega) (by omega) (by omega) (by omega) (fun y0 y1 y2 y3 q0 q1 q2 q3 q4 q5 q6 => ih y0 y1 y2 y3 q0 q1 q2 q3 q4 q5 (by omega))
      · refine ok_ck (by omega) (by omega) ?_
        refine ok_nmI (fun v5 hv5 he7 => ?_)
        have : (40 : Int32).toInt = 40 := by decide
        have : ((40 * v5) : Int32).toInt = 40 * (v5 : Int32).toInt := i32_mulL (by omega) (by omega) (by omega)
        have : (((40 * v5) + x2) : Int32).toInt = ((40 * v5) : Int32).toInt + (x2 : Int32).toInt := i32_add (by omega) (by omega)
        refine ok_ck (by omega) (by omega) ?_
        have := i32_rng (σ.1 20 (Int32.toNatClampNeg ((40 * v5) + x2)))
        refine ok_nmI (fun v6 hv6 he8 => ?_)
        have := i32_rng x3
        have := i32_rng v6
        exact sX12_read_98 (fX12_read_54 n) σ x2 x3 x4 v6 hI (by omega) (by omega) (by omega) (by omega) (by omega) (fun y0 y1 y2 y3 q0 q1 q2 q3 q4 q5 q6 => ih y0 y1 y2 y3 q0 q1 q2 q3 q4 q5 (by omega))

theorem sX12_read_0 {g : Nat} (σ : S2) (x1 : Int32) (x2 : Int32) (hI : IvM g σ)   : Ok (fun z => IvM g z.2 ∧ (-5) ≤ z.1.toInt) (fX12_read_0 σ x1 x2) := by
  have hFU : ((FU : Nat) : Int) = 100000 := rfl
  unfold fX12_read_0
  have := i32_rng x1
  refine ok_bi (sX12_isKeeper σ x1 hI) (fun r7 hr1 => ?_)
  obtain ⟨p2, p3, p4⟩ := hr1
  have p2 : 0 ≤ r7.toInt := p2
  have p3 : r7.toInt ≤ 1 := p3
  have p4 : r7.toInt ≠ 0 → 0 ≤ x1.toInt ∧ x1.toInt < (σ.1 0 3).toInt := p4
  have : 0 ≤ (σ.1 0 3).toInt ∧ (σ.1 0 3).toInt ≤ 12 := hI.1 0 3
  have : (0 : Int32).toInt = 0 := by decide
  refine ok_eq (fun h5 => ?_) (fun h5 => ?_)
  · have : ((-1) : Int32).toInt = (-1) := by decide
    exact ok_some ⟨hI, by show (-5) ≤ ((-1) : Int32).toInt; omega⟩
  · have := i32_rng x2
    refine ok_bi (sX12_isName σ x2 hI) (fun r9 hr6 => ?_)
    obtain ⟨p7, p8, p9⟩ := hr6
    have p7 : 0 ≤ r9.toInt := p7
    have p8 : r9.toInt ≤ 1 := p8
    have p9 : r9.toInt ≠ 0 → 0 ≤ x2.toInt ∧ x2.toInt < (σ.1 0 0).toInt := p9
    have : 0 ≤ (σ.1 0 0).toInt ∧ (σ.1 0 0).toInt ≤ 40 := hI.1 0 0
    refine ok_eq (fun h10 => ?_) (fun h10 => ?_)
    · have : ((-1) : Int32).toInt = (-1) := by decide
      exact ok_some ⟨hI, by show (-5) ≤ ((-1) : Int32).toInt; omega⟩
    · refine ok_ck (by omega) (by omega) ?_
      have : (-1) ≤ (σ.1 6 (Int32.toNatClampNeg x1)).toInt ∧ (σ.1 6 (Int32.toNatClampNeg x1)).toInt ≤ 9 := hI.1 6 (Int32.toNatClampNeg x1); have : (σ.1 6 (Int32.toNatClampNeg x1)).toInt < (σ.1 0 9).toInt := hI.2.2.2.1 (Int32.toNatClampNeg x1)
      refine ok_nmI (fun v11 hv11 he11 => ?_)
      refine ok_lt (fun h12 => ?_) (fun h12 => ?_)
      · have : ((-5) : Int32).toInt = (-5) := by decide
        exact ok_some ⟨hI, by show (-5) ≤ ((-5) : Int32).toInt; omega⟩
      · refine ok_bi (sX12_isAwake σ x1 hI (by omega) (by omega)) (fun r12 hr13 => ?_)
        obtain ⟨p14, p15⟩ := hr13
        have p14 : 0 ≤ r12.toInt := p14
        have p15 : r12.toInt ≤ 1 := p15
        refine ok_eq (fun h16 => ?_) (fun h16 => ?_)
        · have : ((-5) : Int32).toInt = (-5) := by decide
          exact ok_some ⟨hI, by show (-5) ≤ ((-5) : Int32).toInt; omega⟩
        · refine ok_ck (by omega) (by omega) ?_
          refine ok_nmI (fun v14 hv14 he17 => ?_)
          have : 0 ≤ (σ.1 0 9).toInt ∧ (σ.1 0 9).toInt ≤ 10 := hI.1 0 9
          refine ok_bs (sX12_chooseName (σ.1 0 9).toInt σ v14 x2 hI (by omega) (by omega) (by omega) (by omega) (by omega) (by omega)) (fun r15 σ16 hr18 => ?_)
          obtain ⟨p19, p20⟩ := hr18
          have p19 : IvM g σ16 := p19
          have p20 : (σ16.1 0 9).toInt = (σ.1 0 9).toInt := p20
          exact sX12_read_54 FU σ16 x2 0 0 p19 (by omega) (by omega) (by omega) (by omega) (by omega) (by omega)

theorem sX12_read {g : Nat} (σ : S2) (a1 : Int32) (a2 : Int32) (hI : IvM g σ)   : Ok (fun z => IvM g z.2 ∧ (-5) ≤ z.1.toInt) (fX12_read σ a1 a2) := by
  unfold fX12_read
  exact sX12_read_0 σ a1 a2 hI

theorem sX12_onShelf_0 {g : Nat} (σ : S2) (x1 : Int32) (x2 : Int32) (x3 : Int32) (hI : IvM g σ)   : Ok (fun z => True) (fX12_onShelf_0 σ x1 x2 x3) := by
  have hFU : ((FU : Nat) : Int) = 100000 := rfl
  unfold fX12_onShelf_0
  have := i32_rng x1
  refine ok_bi (sX12_isKeeper σ x1 hI) (fun r1 hr1 => ?_)
  obtain ⟨p2, p3, p4⟩ := hr1
  have p2 : 0 ≤ r1.toInt := p2
  have p3 : r1.toInt ≤ 1 := p3
  have p4 : r1.toInt ≠ 0 → 0 ≤ x1.toInt ∧ x1.toInt < (σ.1 0 3).toInt := p4
  have : 0 ≤ (σ.1 0 3).toInt ∧ (σ.1 0 3).toInt ≤ 12 := hI.1 0 3
  have : (0 : Int32).toInt = 0 := by decide
  refine ok_eq (fun h5 => ?_) (fun h5 => ?_)
  · have : ((-1) : Int32).toInt = (-1) := by decide
    exact ok_some trivial
  · have := i32_rng x2
    refine ok_bi (sX12_isName σ x2 hI) (fun r3 hr6 => ?_)
    obtain ⟨p7, p8, p9⟩ := hr6
    have p7 : 0 ≤ r3.toInt := p7
    have p8 : r3.toInt ≤ 1 := p8
    have p9 : r3.toInt ≠ 0 → 0 ≤ x2.toInt ∧ x2.toInt < (σ.1 0 0).toInt := p9
    have : 0 ≤ (σ.1 0 0).toInt ∧ (σ.1 0 0).toInt ≤ 40 := hI.1 0 0
    refine ok_eq (fun h10 => ?_) (fun h10 => ?_)
    · have : ((-1) : Int32).toInt = (-1) := by decide
      exact ok_some trivial
    · have : (40 : Int32).toInt = 40 := by decide
      have : ((40 * x1) : Int32).toInt = 40 * (x1 : Int32).toInt := i32_mulL (by omega) (by omega) (by omega)
      have : (((40 * x1) + x2) : Int32).toInt = ((40 * x1) : Int32).toInt + (x2 : Int32).toInt := i32_add (by omega) (by omega)
      refine ok_nmI (fun v5 hv5 he11 => ?_)
      have := i32_rng x3
      refine ok_eq (fun h12 => ?_) (fun h12 => ?_)
      · refine ok_ck (by omega) (by omega) ?_
        have := i32_rng (σ.1 20 (Int32.toNatClampNeg v5))
        refine ok_nmI (fun v9 hv9 he13 => ?_)
        have := i32_rng v9
        exact ok_some trivial
      · have : (1 : Int32).toInt = 1 := by decide
        refine ok_eq (fun h14 => ?_) (fun h14 => ?_)
        · refine ok_ck (by omega) (by omega) ?_
          have := i32_rng (σ.1 21 (Int32.toNatClampNeg v5))
          refine ok_nmI (fun v8 hv8 he15 => ?_)
          have := i32_rng v8
          exact ok_some trivial
        · have : (2 : Int32).toInt = 2 := by decide
          refine ok_eq (fun h16 => ?_) (fun h16 => ?_)
          · refine ok_ck (by omega) (by omega) ?_
            have : (-2) ≤ (σ.1 22 (Int32.toNatClampNeg v5)).toInt ∧ (σ.1 22 (Int32.toNatClampNeg v5)).toInt ≤ 11 := hI.1 22 (Int32.toNatClampNeg v5)
            refine ok_nmI (fun v7 hv7 he17 => ?_)
            exact ok_some trivial
          · have : (3 : Int32).toInt = 3 := by decide
            refine ok_eq (fun h18 => ?_) (fun h18 => ?_)
            · refine ok_ck (by omega) (by omega) ?_
              have := i32_rng (σ.1 23 (Int32.toNatClampNeg v5))
              refine ok_nmI (fun v6 hv6 he19 => ?_)
              have := i32_rng v6
              exact ok_some trivial
            · have : ((-1) : Int32).toInt = (-1) := by decide
              exact ok_some trivial

theorem sX12_onShelf {g : Nat} (σ : S2) (a1 : Int32) (a2 : Int32) (a3 : Int32) (hI : IvM g σ)   : Ok (fun z => True) (fX12_onShelf σ a1 a2 a3) := by
  unfold fX12_onShelf
  exact sX12_onShelf_0 σ a1 a2 a3 hI

