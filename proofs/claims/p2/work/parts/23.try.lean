theorem or_bit {x v : Int32} {k : Nat} (h0 : 0 ≤ x.toInt) (hv : v.toInt = (k : Int)) (hk : k < 12) : 0 ≤ (x ||| (1 <<< (v &&& 31))).toInt ∧ ∀ j, (x ||| (1 <<< (v &&& 31))).toInt.toNat.testBit j = (x.toInt.toNat.testBit j || decide (j = k)) := by
  have hs := i32_shl1 (x := v) (by omega) (by omega)
  have ek : v.toInt.toNat = k := by omega
  rw [ek] at hs
  generalize (1 : Int32) <<< (v &&& 31) = w at hs ⊢
  have hp : ((2 ^ k : Nat) : Int) = 2 ^ k := by push_cast; rfl
  have hp0 := Nat.two_pow_pos k
  obtain ⟨a1, a2⟩ := bv_nn (x := x.toBitVec) h0
  obtain ⟨b1, b2⟩ := bv_nn (x := w.toBitVec) (show 0 ≤ w.toInt by omega)
  have e : (x ||| w).toInt = ((x.toBitVec ||| w.toBitVec).toNat : Int) := BitVec.toInt_eq_toNat_of_msb (x := x.toBitVec ||| w.toBitVec) (by rw [BitVec.msb_or, a1, b1]; rfl)
  have a3 : x.toInt = (x.toBitVec.toNat : Int) := a2
  have b3 : w.toInt = (w.toBitVec.toNat : Int) := b2
  have b4 : w.toBitVec.toNat = 2 ^ k := by omega
  refine ⟨by omega, fun j => ?_⟩
  have e1 : (x ||| w).toInt.toNat = x.toBitVec.toNat ||| w.toBitVec.toNat := by
    rw [← BitVec.toNat_or]; omega
  have e2 : x.toInt.toNat = x.toBitVec.toNat := by omega
  rw [e1, e2, Nat.testBit_or, b4, Nat.testBit_two_pow]
  by_cases q : k = j
  · subst q; rfl
  · have q' : ¬ j = k := fun r => q r.symm
    rw [decide_eq_false q, decide_eq_false q']
theorem pb_walk {g : Nat} : ∀ (n : Nat) (σ : S2) (x1 x2 x3 x4 x5 x6 : Int32), 12 - x6.toInt < (n : Int) → IvM g σ → 0 ≤ x1.toInt → x1.toInt ≤ 10 → 0 ≤ x2.toInt → x2.toInt ≤ 999 → 0 ≤ x3.toInt → x3.toInt ≤ 4095 → SwM σ x1 x3 → 0 ≤ x6.toInt → x6.toInt ≤ 12 → ((x4.toInt = -1 ∧ ∀ k : Nat, (k : Int) < x6.toInt → ¬ NsM σ x1 x3 k) ∨ ∃ k, NsM σ x1 x3 k ∧ x4.toInt = (k : Int)) → (∃ k : Nat, NsM σ x1 x3 k ∧ (k : Int) < (σ.1 0 3).toInt) → Ok (fun z => IvM g z.2 ∧ (z.2.1 0 9).toInt = (σ.1 0 9).toInt ∧ PkM σ z.2 x1 x3) (fX12_pickBest_9 n σ x1 x2 x3 x4 x5 x6) := by
  intro n
  induction n with
  | zero => intro σ x1 x2 x3 x4 x5 x6 hm hI a0 a1 b0 b1 c0 c1 hs d0 d1 h4 hk; exfalso; omega
  | succ n ih =>
    intro σ x1 x2 x3 x4 x5 x6 hm hI a0 a1 b0 b1 c0 c1 hs d0 d1 h4 hk
    have h3 : 0 ≤ (σ.1 0 3).toInt ∧ (σ.1 0 3).toInt ≤ 12 := hI.1 0 3
    have one : (1 : Int32).toInt = 1 := rfl
    have m1 : ((-1 : Int32)).toInt = -1 := by decide
    have z0 : (0 : Int32).toInt = 0 := rfl
    unfold fX12_pickBest_9
    refine ok_le (fun he => ?_) (fun he => ?_)
    · rcases h4 with ⟨_, hno⟩ | ⟨k, hn, hv⟩
      · obtain ⟨k, hn, hlt⟩ := hk
        exact absurd hn (hno k (by omega))
      · exact pk_fin hI hs hn hv
    · have e12 : (12 : Int32).toInt = 12 := rfl
      have em : (12 * x1).toInt = 12 * x1.toInt := i32_mulL e12 (by omega) (by omega)
      have ea : ((12 * x1) + x6).toInt = 12 * x1.toInt + x6.toInt := by rw [i32_add (by omega) (by omega), em]
      have ep : (x6 + 1).toInt = x6.toInt + 1 := by rw [i32_add (by omega) (by omega), one]
      have en := i32_nat d0
      refine ok_ck (by omega) (by omega) (ok_nm (fun v4 _ => ?_))
      refine ok_bi (sX12_mixed σ x2 x6 v4 hI (by omega) (by omega) (by omega)) (fun r5 _ => ?_)
      refine ok_ck (by omega) (by omega) (ok_nm (fun v7 _ => ok_nm (fun v8 _ => ?_)))
      refine ok_bi (sX12_isIn σ x1 x6 hI (by omega) (by omega) (by omega) (by omega)) (fun r9 hr => ?_)
      obtain ⟨r0, r1, hii⟩ := hr
      have skip : ¬ NsM σ x1 x3 (Int32.toNatClampNeg x6) → Ok (fun z => IvM g z.2 ∧ (z.2.1 0 9).toInt = (σ.1 0 9).toInt ∧ PkM σ z.2 x1 x3) (fX12_pickBest_85 (fX12_pickBest_9 n) σ x1 x2 x3 x4 x5 x6) := by
        intro hno
        unfold fX12_pickBest_85
        refine ok_nmI (fun v1 _ e1 => ?_)
        refine ih σ x1 x2 x3 x4 x5 v1 (by omega) hI a0 a1 b0 b1 c0 c1 hs (by omega) (by omega) ?_ hk
        rcases h4 with ⟨q1, q2⟩ | q
        · refine Or.inl ⟨q1, fun k hk' => ?_⟩
          by_cases e : k = Int32.toNatClampNeg x6
          · subst e; exact hno
          · exact q2 k (by omega)
        · exact Or.inr q
      have skip2 : (∃ k, NsM σ x1 x3 k ∧ x4.toInt = (k : Int)) → Ok (fun z => IvM g z.2 ∧ (z.2.1 0 9).toInt = (σ.1 0 9).toInt ∧ PkM σ z.2 x1 x3) (fX12_pickBest_85 (fX12_pickBest_9 n) σ x1 x2 x3 x4 x5 x6) := by
        intro hq
        unfold fX12_pickBest_85
        exact ok_nmI (fun v1 _ e1 => ih σ x1 x2 x3 x4 x5 v1 (by omega) hI a0 a1 b0 b1 c0 c1 hs (by omega) (by omega) (Or.inr hq) hk)
      have take : NsM σ x1 x3 (Int32.toNatClampNeg x6) → Ok (fun z => IvM g z.2 ∧ (z.2.1 0 9).toInt = (σ.1 0 9).toInt ∧ PkM σ z.2 x1 x3) (fX12_pickBest_77 (fX12_pickBest_9 n) σ x1 x2 x3 x6 v8) := by
        intro hn
        unfold fX12_pickBest_77 fX12_pickBest_85
        exact ok_nmI (fun v1 _ e1 => ih σ x1 x2 x3 x6 v8 v1 (by omega) hI a0 a1 b0 b1 c0 c1 hs (by omega) (by omega) (Or.inr ⟨_, hn, by omega⟩) hk)
      have hb := bit_sar (a := x3) (x := x6) hs.1 c1 (by omega) (by omega)
      refine ok_eq (fun h0 => skip (fun hn => ?_)) (fun h0 => ?_)
      · exact absurd (hii.mpr hn.2.1) (by omega)
      · refine ok_eq (fun hz => ?_) (fun hz => skip (fun hn => ?_))
        · have hx : x3.toInt.toNat.testBit (Int32.toNatClampNeg x6) = false := by
            cases e : x3.toInt.toNat.testBit (Int32.toNatClampNeg x6)
            · rfl
            · rw [e] at hb; rw [hb] at hz; exact absurd hz (by decide)
          have hn : NsM σ x1 x3 (Int32.toNatClampNeg x6) := ⟨by omega, hii.mp (by omega), hx⟩
          refine ok_eq (fun hm1 => take hn) (fun hm1 => ?_)
          refine ok_le (fun _ => skip2 ?_) (fun _ => take hn)
          rcases h4 with ⟨q1, _⟩ | q
          · exfalso; omega
          · exact q
        · rw [hn.2.2] at hb; exact hz hb
theorem SwM.le {g : Nat} {σ : S2} {t x : Int32} (h : SwM σ t x) (hf : FaM σ (Int32.toNatClampNeg t)) (hk : (σ.1 0 3).toInt ≤ 12) : x.toInt ≤ 4095 := by
  have l := toNat_lt2 hf.1.1.1 hf.1.1.2
  have : x.toInt.toNat < 2 ^ 12 := by
    apply Nat.lt_pow_two_of_testBit
    intro i hi
    cases e : x.toInt.toNat.testBit i
    · rfl
    · have := testBit_lt l (h.2.1 i e); omega
  have h1 := h.1
  omega
theorem pi_walk {g : Nat} (t0 : Int) : ∀ (n : Nat) (σ : S2) (x1 x2 x3 x4 : Int32), IvM g σ → 0 ≤ x1.toInt → x1.toInt ≤ 10 → 0 ≤ x2.toInt → x2.toInt ≤ 999 → 0 ≤ x4.toInt → x4.toInt ≤ 999 → (σ.1 0 9).toInt = t0 → (x1.toInt < t0 ∨ (x1.toInt = 10 ∧ g = 0)) → SwM σ x1 x3 → 12 - (σ.1 0 53).toInt < (n : Int) → Ok (fun z => IvM g z.2 ∧ (z.2.1 0 9).toInt = t0) (fX12_pick_10 n σ x1 x2 x3 x4) := by
  intro n
  induction n with
  | zero => intro σ x1 x2 x3 x4 hI a0 a1 b0 b1 c0 c1 ht hx hs hm; have : 0 ≤ (σ.1 0 53).toInt ∧ (σ.1 0 53).toInt ≤ 12 := hI.1 0 53; exfalso; omega
  | succ n ih =>
    intro σ x1 x2 x3 x4 hI a0 a1 b0 b1 c0 c1 ht hx hs hm
    have e1 := i32_nat a0
    have hf : FaM σ (Int32.toNatClampNeg x1) := hI.2.2.1 _ (by omega)
    have h3 : 0 ≤ (σ.1 0 3).toInt ∧ (σ.1 0 3).toInt ≤ 12 := hI.1 0 3
    have hle := hs.le (g := g) hf h3.2
    have h0 := hs.1
    have one : (1 : Int32).toInt = 1 := rfl
    have e333 : (333 : Int32).toInt = 333 := rfl
    have e1000 : (1000 : Int32).toInt = 1000 := rfl
    have step : ∀ (σ' : S2) (y4 : Int32), IvM g σ' → (σ'.1 0 9).toInt = t0 → PkM σ σ' x1 x3 → 0 ≤ y4.toInt → y4.toInt ≤ 999 → Ok (fun z => IvM g z.2 ∧ (z.2.1 0 9).toInt = t0) (fX12_pick_75 (fX12_pick_10 n) σ' x1 x2 x3 y4) := by
      intro σ' y4 hI' ht' hp y0 y1
      obtain ⟨k, hn, hv, h53, h8⟩ := hp
      have hc := pcM_lt hn.1 hn.2.2
      have hm3 := hs.2.2
      have k12 := hn.1
      have es : ((σ'.1 0 53) - 1).toInt = (σ.1 0 53).toInt := by rw [i32_sub (by omega) (by omega), one]; omega
      have es' : (σ'.1 0 53) - 1 = (σ.1 0 53) := Int32.toInt_inj.mp es
      unfold fX12_pick_75
      rw [es']
      refine ok_ck (by omega) (by omega) (ok_nmI (fun v1 _ ev => ok_nm (fun v2 h2 => ?_)))
      have ho := or_bit (x := x3) (v := v1) (k := k) h0 (by omega) k12
      rw [← h2] at ho
      refine ih σ' x1 x2 v2 y4 hI' a0 a1 b0 b1 y0 y1 ht' hx ⟨ho.1, fun j hj => ?_, ?_⟩ (by omega)
      · rw [h8]
        rw [ho.2 j] at hj
        by_cases q : j = k
        · subst q; exact hn.2.1
        · rw [decide_eq_false q, Bool.or_false] at hj; exact hs.2.1 j hj
      · rw [h53, hm3, pcM_or k12 hn.2.2 ho.2]
    unfold fX12_pick_10
    refine ok_ck (by omega) (by omega) (ok_nmI (fun v3 h3' ev3 => ?_))
    refine ok_eq (fun _ => ok_some ⟨hI, ht⟩) (fun hne => ?_)
    have hne' : x3.toInt ≠ (σ.1 8 (Int32.toNatClampNeg x1)).toInt := by rw [← ev3]; exact hne
    refine ok_ck (by omega) (by omega) (ok_nm (fun v4 _ => ?_))
    refine ok_eq (fun _ => ?_) (fun _ => ?_)
    · refine ok_bs (sX12_pickBest t0 σ x1 x2 x3 hI a0 a1 b0 b1 h0 hle ht hs hne' (by omega)) (fun r10 σ11 hr => ?_)
      exact step σ11 x4 hr.1 hr.2.1 hr.2.2 c0 c1
    · refine ok_bs (sX12_pickNext t0 σ x1 x4 x3 hI a0 a1 c0 c1 h0 hle ht hs hne' (by omega)) (fun r5 σ6 hr => ?_)
      refine ok_ck (by omega) (by omega) (ok_nm (fun v8 _ => ?_))
      unfold fX12_pick_73
      refine ok_eq (fun _ => ?_) (fun _ => step σ6 x4 hr.1 hr.2.1 hr.2.2 c0 c1)
      have ea : (x4 + 333).toInt = x4.toInt + 333 := by rw [i32_add (by omega) (by omega), e333]
      have er := i32_rem (a := x4 + 333) (b := 1000) e1000 (by omega) (by omega)
      exact ok_dz (by omega) (step σ6 _ hr.1 hr.2.1 hr.2.2 (by omega) (by omega))
/-- the first n of tried are unlike -/
def DiM (σ : S2) (n : Int32) : Prop := ∀ i j : Nat, (i : Int) < n.toInt → (j : Int) < n.toInt → (σ.1 39 i).toInt = (σ.1 39 j).toInt → i = j
def DjM (σ : S2) (n : Int32) : Prop := ∀ i : Nat, (i : Int) < n.toInt → (σ.1 39 i).toInt = (i : Int)
theorem DiM.n {σ : S2} {n m : Int32} (h : DiM σ n) (e : m.toInt = n.toInt) : DiM σ m := fun i j hi hj q => h i j (by omega) (by omega) q
theorem DjM.di {σ : S2} {n m : Int32} (h : DjM σ n) (e : m.toInt ≤ n.toInt) : DiM σ m := fun i j hi hj q => by
  have := h i (by omega)
  have := h j (by omega)
  omega
theorem DjM.step {σ : S2} {x y : Int32} {v : Int32} {i : Nat} (h : DjM σ x) (h0 : 0 ≤ x.toInt) (hy : y.toInt = x.toInt + 1) (hi : i = Int32.toNatClampNeg x) (hv : v.toInt = x.toInt) : DjM (ux_wI σ 39 i v) y := by
  intro j hj
  have := i32_nat h0
  by_cases e : j = i
  · subst e; rw [ux_wI_eq]; omega
  · rw [ux_wI_ne (fun q => e q.2)]; exact h j (by omega)
theorem sw_at {σ : S2} {a b : Nat} {x y : Int32} (hx : x = σ.1 39 b) (hy : y = σ.1 39 a) (i : Nat) : (ux_wI (ux_wI σ 39 a x) 39 b y).1 39 i = σ.1 39 (if i = b then a else if i = a then b else i) := by
  subst hx hy
  by_cases h : i = b
  · rw [if_pos h]; subst h; rw [ux_wI_eq]
  · rw [if_neg h, ux_wI_ne (fun q => h q.2)]
    by_cases h2 : i = a
    · rw [if_pos h2]; subst h2; rw [ux_wI_eq]
    · rw [if_neg h2, ux_wI_ne (fun q => h2 q.2)]
theorem sw_fr {σ : S2} {a b : Nat} {x y : Int32} {k : Nat} (hk : k ≠ 39) : (ux_wI (ux_wI σ 39 a x) 39 b y).1 k = σ.1 k := by
  funext i
  rw [ux_wI_ne (fun q => hk q.1), ux_wI_ne (fun q => hk q.1)]
theorem DiM.sw {σ τ : S2} {n : Int32} {a b : Nat} (h : DiM σ n) (ha : (a : Int) < n.toInt) (hb : (b : Int) < n.toInt) (e : ∀ i, τ.1 39 i = σ.1 39 (if i = b then a else if i = a then b else i)) : DiM τ n := by
  intro i j hi hj q
  rw [e i, e j] at q
  have hp : ∀ i : Nat, (i : Int) < n.toInt → ((if i = b then a else if i = a then b else i : Nat) : Int) < n.toInt := by
    intro i hi
    by_cases h1 : i = b
    · rw [if_pos h1]; exact ha
    · rw [if_neg h1]
      by_cases h2 : i = a
      · rw [if_pos h2]; exact hb
      · rw [if_neg h2]; exact hi
  have := h _ _ (hp i hi) (hp j hj) q
  have key : ∀ i : Nat, (i = b ∧ (if i = b then a else if i = a then b else i) = a) ∨ (i ≠ b ∧ i = a ∧ (if i = b then a else if i = a then b else i) = b) ∨ (i ≠ b ∧ i ≠ a ∧ (if i = b then a else if i = a then b else i) = i) := by
    intro i
    by_cases h1 : i = b
    · exact Or.inl ⟨h1, if_pos h1⟩
    · by_cases h2 : i = a
      · exact Or.inr (Or.inl ⟨h1, h2, by rw [if_neg h1, if_pos h2]⟩)
      · exact Or.inr (Or.inr ⟨h1, h2, by rw [if_neg h1, if_neg h2]⟩)
  have ki := key i
  have kj := key j
  generalize (if i = b then a else if i = a then b else i) = u at this ki
  generalize (if j = b then a else if j = a then b else j) = v at this kj
  omega
theorem no108 {g : Nat} {N : Int32} : ∀ (n : Nat) (σ : S2) (x5 x6 : Int32), IvM g σ → DiM σ N → -1 ≤ x5.toInt → x5.toInt < N.toInt → N.toInt ≤ 5 → 0 ≤ x6.toInt → x6.toInt ≤ 5 → 6 - x6.toInt ≤ (n : Int) → Ok (fun z => IvM g z.2 ∧ z.1.toInt = 1 ∧ DiM z.2 N ∧ (∀ k, k ≠ 39 → z.2.1 k = σ.1 k) ∧ ∀ j : Nat, (j : Int) < x6.toInt → z.2.1 39 j = σ.1 39 j) (fX12_nextOrder_108 n σ x5 x6) := by
  intro n
  induction n with
  | zero => intro σ x5 x6 hI hd a0 a1 a2 b0 b1 hm; exfalso; omega
  | succ n ih =>
    intro σ x5 x6 hI hd a0 a1 a2 b0 b1 hm
    have one : (1 : Int32).toInt = 1 := rfl
    have m1 : ((-1 : Int32)).toInt = -1 := by decide
    unfold fX12_nextOrder_108
    refine ok_le (fun _ => ok_some ⟨hI, rfl, hd, fun _ _ => rfl, fun _ _ => rfl⟩) (fun hlt => ?_)
    have e5 := i32_nat (i := x5) (by omega)
    have e6 := i32_nat b0
    refine ok_ck (by omega) (by omega) (ok_nmI (fun v1 h1 f1 => ?_))
    refine ok_ck (by omega) (by omega) (ok_nmI (fun v2 h2 f2 => ?_))
    have q1 : 0 ≤ v1.toInt ∧ v1.toInt ≤ 4 := by rw [f1]; exact hI.1 39 _
    have q2 : 0 ≤ v2.toInt ∧ v2.toInt ≤ 4 := by rw [f2]; exact hI.1 39 _
    refine ok_ck (by omega) (by omega) (ok_nm (fun σ3 h3 => ?_))
    refine ok_ck (by omega) (by omega) (ok_nm (fun σ4 h4 => ?_))
    refine ok_nmI (fun v5 _ f5 => ok_nmI (fun v6 _ f6 => ?_))
    rw [i32_add (by omega) (by omega), m1] at f5
    rw [i32_add (by omega) (by omega), one] at f6
    have hI3 : IvM g σ3 := by rw [h3]; exact IvM.wI hI rfl q2.1 q2.2
    have hI4 : IvM g σ4 := by rw [h4]; exact IvM.wI hI3 rfl q1.1 q1.2
    have hat : ∀ i, σ4.1 39 i = σ.1 39 (if i = Int32.toNatClampNeg x5 then Int32.toNatClampNeg x6 else if i = Int32.toNatClampNeg x6 then Int32.toNatClampNeg x5 else i) := by
      intro i; rw [h4, h3]; exact sw_at h2 h1 i
    have hfr : ∀ k, k ≠ 39 → σ4.1 k = σ.1 k := by
      intro k hk; rw [h4, h3]; exact sw_fr hk
    refine ok_mono (ih σ4 v5 v6 hI4 (hd.sw (by omega) (by omega) hat) (by omega) (by omega) a2 (by omega) (by omega) (by omega)) (fun z hz => ?_)
    obtain ⟨z1, z2, z3, z4, z5⟩ := hz
    refine ⟨z1, z2, z3, fun k hk => (z4 k hk).trans (hfr k hk), fun j hj => ?_⟩
    rw [z5 j (by omega), hat j, if_neg (by omega), if_neg (by omega)]
def VoM (σ : S2) : Int := 625 * (σ.1 39 0).toInt + 125 * (σ.1 39 1).toInt + 25 * (σ.1 39 2).toInt + 5 * (σ.1 39 3).toInt + (σ.1 39 4).toInt
theorem vo_lt {g : Nat} {σ τ : S2} {i : Nat} (hI : IvM g σ) (hJ : IvM g τ) (hi : i < 5) (hb : ∀ j, j < i → τ.1 39 j = σ.1 39 j) (hl : (σ.1 39 i).toInt < (τ.1 39 i).toInt) : VoM σ + 1 ≤ VoM τ := by
  have b : ∀ j, 0 ≤ (σ.1 39 j).toInt ∧ (σ.1 39 j).toInt ≤ 4 := fun j => hI.1 39 j
  have c : ∀ j, 0 ≤ (τ.1 39 j).toInt ∧ (τ.1 39 j).toInt ≤ 4 := fun j => hJ.1 39 j
  have b0 := b 0; have b1 := b 1; have b2 := b 2; have b3 := b 3; have b4 := b 4
  have c0 := c 0; have c1 := c 1; have c2 := c 2; have c3 := c 3; have c4 := c 4
  unfold VoM
  have hi' : i = 0 ∨ i = 1 ∨ i = 2 ∨ i = 3 ∨ i = 4 := by omega
  rcases hi' with rfl | rfl | rfl | rfl | rfl
  · omega
  · rw [hb 0 (by omega)]; omega
  · rw [hb 0 (by omega), hb 1 (by omega)]; omega
  · rw [hb 0 (by omega), hb 1 (by omega), hb 2 (by omega)]; omega
  · rw [hb 0 (by omega), hb 1 (by omega), hb 2 (by omega), hb 3 (by omega)]; omega
def NoM (σ τ : S2) (n r : Int32) : Prop := DiM τ n ∧ (∀ k, k ≠ 39 → τ.1 k = σ.1 k) ∧ (r.toInt ≠ 0 → VoM σ + 1 ≤ VoM τ) ∧ (r.toInt = 0 → VoM τ = VoM σ)
theorem no49 {g : Nat} : ∀ (n : Nat) (σ : S2) (x1 x2 x3 : Int32), IvM g σ → DiM σ x1 → x1.toInt ≤ 5 → 0 ≤ x2.toInt → x2.toInt < x3.toInt → x3.toInt < x1.toInt → (σ.1 39 (Int32.toNatClampNeg x2)).toInt ≤ (σ.1 39 (Int32.toNatClampNeg x2 + 1)).toInt → x3.toInt - x2.toInt ≤ (n : Int) → Ok (fun z => IvM g z.2 ∧ 0 ≤ z.1.toInt ∧ z.1.toInt ≤ 1 ∧ NoM σ z.2 x1 z.1) (fX12_nextOrder_49 n σ x1 x2 x3) := by
  intro n
  induction n with
  | zero => intro σ x1 x2 x3 hI hd a1 b0 b1 c1 hle hm; exfalso; omega
  | succ n ih =>
    intro σ x1 x2 x3 hI hd a1 b0 b1 c1 hle hm
    have one : (1 : Int32).toInt = 1 := rfl
    have m1 : ((-1 : Int32)).toInt = -1 := by decide
    have e2 := i32_nat b0
    have e3 := i32_nat (i := x3) (by omega)
    unfold fX12_nextOrder_49
    refine ok_ck (by omega) (by omega) (ok_nmI (fun v7 h7 f7 => ?_))
    refine ok_ck (by omega) (by omega) (ok_nmI (fun v8 h8 f8 => ?_))
    refine ok_le (fun hge => ?_) (fun hlt => ?_)
    · refine ok_ck (by omega) (by omega) (ok_nmI (fun v9 h9 f9 => ?_))
      refine ok_ck (by omega) (by omega) (ok_nmI (fun v10 h10 f10 => ?_))
      have q1 : 0 ≤ v9.toInt ∧ v9.toInt ≤ 4 := by rw [f9]; exact hI.1 39 _
      have q2 : 0 ≤ v10.toInt ∧ v10.toInt ≤ 4 := by rw [f10]; exact hI.1 39 _
      refine ok_ck (by omega) (by omega) (ok_nm (fun σ11 h11 => ?_))
      refine ok_ck (by omega) (by omega) (ok_nm (fun σ12 h12 => ?_))
      refine ok_nmI (fun v13 _ f13 => ok_nmI (fun v14 _ f14 => ?_))
      rw [i32_sub (by omega) (by omega), one] at f13
      rw [i32_add (by omega) (by omega), one] at f14
      have hI3 : IvM g σ11 := by rw [h11]; exact IvM.wI hI rfl q2.1 q2.2
      have hI4 : IvM g σ12 := by rw [h12]; exact IvM.wI hI3 rfl q1.1 q1.2
      have hat : ∀ i, σ12.1 39 i = σ.1 39 (if i = Int32.toNatClampNeg x3 then Int32.toNatClampNeg x2 else if i = Int32.toNatClampNeg x2 then Int32.toNatClampNeg x3 else i) := by
        intro i; rw [h12, h11]; exact sw_at h10 h9 i
      have hfr : ∀ k, k ≠ 39 → σ12.1 k = σ.1 k := by
        intro k hk; rw [h12, h11]; exact sw_fr hk
      refine ok_mono (no108 (N := x1) FU σ12 v13 v14 hI4 (hd.sw (by omega) (by omega) hat) (by omega) (by omega) a1 (by omega) (by omega) (by have : FU = 100000 := rfl; omega)) (fun z hz => ?_)
      obtain ⟨z1, z2, z3, z4, z5⟩ := hz
      refine ⟨z1, by omega, by omega, z3, fun k hk => (z4 k hk).trans (hfr k hk), fun _ => ?_, fun q => by exfalso; omega⟩
      refine vo_lt (i := Int32.toNatClampNeg x2) hI z1 (by omega) (fun j hj => ?_) ?_
      · rw [z5 j (by omega), hat j, if_neg (by omega), if_neg (by omega)]
      · rw [z5 _ (by omega), hat, if_neg (by omega), if_pos rfl]
        have hne : (σ.1 39 (Int32.toNatClampNeg x2)).toInt ≠ (σ.1 39 (Int32.toNatClampNeg x3)).toInt := fun q => by
          have := hd _ _ (by omega) (by omega) q; omega
        omega
    · refine ok_nmI (fun v15 _ f15 => ?_)
      rw [i32_add (by omega) (by omega), m1] at f15
      have hne : x3.toInt ≠ x2.toInt + 1 := fun q => by
        have : Int32.toNatClampNeg x3 = Int32.toNatClampNeg x2 + 1 := by omega
        rw [this] at f7; omega
      exact ih σ x1 x2 v15 hI hd a1 b0 (by omega) (by omega) hle (by omega)
theorem no39 {g : Nat} {σ : S2} {x1 x2 : Int32} (hI : IvM g σ) (hd : DiM σ x1) (a1 : x1.toInt ≤ 5) (b0 : -2 ≤ x2.toInt) (b1 : x2.toInt + 2 ≤ x1.toInt) (hle : 0 ≤ x2.toInt → (σ.1 39 (Int32.toNatClampNeg x2)).toInt ≤ (σ.1 39 (Int32.toNatClampNeg x2 + 1)).toInt) : Ok (fun z => IvM g z.2 ∧ 0 ≤ z.1.toInt ∧ z.1.toInt ≤ 1 ∧ NoM σ z.2 x1 z.1) (fX12_nextOrder_39 σ x1 x2) := by
  have one : (1 : Int32).toInt = 1 := rfl
  have z0 : (0 : Int32).toInt = 0 := rfl
  unfold fX12_nextOrder_39
  refine ok_le (fun h => ?_) (fun _ => ok_some ⟨hI, (show (0 : Int) ≤ (0 : Int32).toInt by decide), (show (0 : Int32).toInt ≤ 1 by decide), hd, fun _ _ => rfl, fun q => absurd z0 q, fun _ => rfl⟩)
  refine ok_nmI (fun v16 _ f => ?_)
  rw [i32_sub (by omega) (by omega), one] at f
  exact no49 FU σ x1 x2 v16 hI hd a1 (by omega) (by omega) (by omega) (hle (by omega)) (by have : FU = 100000 := rfl; omega)
theorem no4 {g : Nat} : ∀ (n : Nat) (σ : S2) (x1 x2 : Int32), IvM g σ → DiM σ x1 → x1.toInt ≤ 5 → -2 ≤ x2.toInt → x2.toInt + 2 ≤ x1.toInt → x2.toInt + 3 ≤ (n : Int) → Ok (fun z => IvM g z.2 ∧ 0 ≤ z.1.toInt ∧ z.1.toInt ≤ 1 ∧ NoM σ z.2 x1 z.1) (fX12_nextOrder_4 n σ x1 x2) := by
  intro n
  induction n with
  | zero => intro σ x1 x2 hI hd a1 b0 b1 hm; exfalso; omega
  | succ n ih =>
    intro σ x1 x2 hI hd a1 b0 b1 hm
    have one : (1 : Int32).toInt = 1 := rfl
    have z0 : (0 : Int32).toInt = 0 := rfl
    have m1 : ((-1 : Int32)).toInt = -1 := by decide
    unfold fX12_nextOrder_4
    refine ok_lt (fun h => no39 hI hd a1 b0 b1 (fun q => by exfalso; omega)) (fun h => ?_)
    refine ok_le (fun h' => ?_) (fun h' => by exfalso; omega)
    have e2 := i32_nat (i := x2) (by omega)
    have ep : (x2 + 1).toInt = x2.toInt + 1 := by rw [i32_add (by omega) (by omega), one]
    have e3 := i32_nat (i := x2 + 1) (by omega)
    have en : Int32.toNatClampNeg (x2 + 1) = Int32.toNatClampNeg x2 + 1 := by omega
    unfold fX12_nextOrder_21
    refine ok_ck (by omega) (by omega) (ok_nmI (fun v17 _ f17 => ?_))
    refine ok_ck (by omega) (by omega) (ok_nmI (fun v18 _ f18 => ?_))
    rw [en] at f18
    refine ok_le (fun hq => no39 hI hd a1 b0 b1 (fun _ => by omega)) (fun hq => ?_)
    refine ok_nmI (fun v19 _ f19 => ?_)
    rw [i32_add (by omega) (by omega), m1] at f19
    exact ih σ x1 v19 hI hd a1 (by omega) (by omega) (by omega)
theorem no_all {g : Nat} {σ : S2} {a1 : Int32} (hI : IvM g σ) (hd : DiM σ a1) (h0 : 0 ≤ a1.toInt) (h1 : a1.toInt ≤ 5) : Ok (fun z => IvM g z.2 ∧ 0 ≤ z.1.toInt ∧ z.1.toInt ≤ 1 ∧ NoM σ z.2 a1 z.1) (fX12_nextOrder σ a1) := by
  have two : (2 : Int32).toInt = 2 := rfl
  unfold fX12_nextOrder fX12_nextOrder_0
  refine ok_nmI (fun v20 _ f => ?_)
  rw [i32_sub (by omega) (by omega), two] at f
  exact no4 FU σ a1 v20 hI hd h1 (by omega) (by omega) (by have : FU = 100000 := rfl; omega)
def cnS (f : Nat → Int32) : Nat → Int
  | 0 => 0
  | n + 1 => cnS f n + (if (f n).toInt = -1 then 0 else 1)
theorem cnS_free {f : Nat → Int32} : ∀ n : Nat, cnS f n < (n : Int) → ∃ p, p < n ∧ (f p).toInt = -1 := by
  intro n
  induction n with
  | zero => intro h; have : cnS f 0 = 0 := rfl; exfalso; omega
  | succ n ih =>
    intro h
    have e : cnS f (n + 1) = cnS f n + (if (f n).toInt = -1 then 0 else 1) := rfl
    by_cases q : (f n).toInt = -1
    · exact ⟨n, by omega, q⟩
    · rw [if_neg q] at e
      obtain ⟨p, hp, r⟩ := ih (by omega)
      exact ⟨p, by omega, r⟩
theorem cnS_zero {f : Nat → Int32} : ∀ n : Nat, (∀ p, p < n → (f p).toInt = -1) → cnS f n = 0 := by
  intro n
  induction n with
  | zero => intro _; rfl
  | succ n ih =>
    intro h
    have e : cnS f (n + 1) = cnS f n + (if (f n).toInt = -1 then 0 else 1) := rfl
    rw [e, ih (fun p hp => h p (by omega)), if_pos (h n (by omega))]; rfl
theorem cnS_same {f f' : Nat → Int32} : ∀ n : Nat, (∀ p, p < n → f' p = f p) → cnS f' n = cnS f n := by
  intro n
  induction n with
  | zero => intro _; rfl
  | succ n ih =>
    intro h
    have e : cnS f (n + 1) = cnS f n + (if (f n).toInt = -1 then 0 else 1) := rfl
    have e' : cnS f' (n + 1) = cnS f' n + (if (f' n).toInt = -1 then 0 else 1) := rfl
    rw [e, e', ih (fun p hp => h p (by omega)), h n (by omega)]
theorem cnS_step {f f' : Nat → Int32} {q : Nat} (h : ∀ p, p ≠ q → f' p = f p) : ∀ n : Nat, cnS f' n ≤ cnS f n + 1 := by
  intro n
  induction n with
  | zero => exact (show (0 : Int) ≤ 0 + 1 by decide)
  | succ n ih =>
    have e : cnS f (n + 1) = cnS f n + (if (f n).toInt = -1 then 0 else 1) := rfl
    have e' : cnS f' (n + 1) = cnS f' n + (if (f' n).toInt = -1 then 0 else 1) := rfl
    have b : ∀ x : Int, (0 : Int) ≤ (if x = -1 then 0 else 1) ∧ (if x = -1 then (0 : Int) else 1) ≤ 1 := fun x => by split <;> omega
    have b1 := b (f n).toInt
    have b2 := b (f' n).toInt
    by_cases c : n = q
    · subst c
      rw [e, e', cnS_same n (fun p hp => h p (by omega))]; omega
    · rw [e, e', h n c]; omega
def seM (σ : S2) (t : Nat) (p : Nat) : Int32 := σ.1 18 (1000 * t + p)
def HsM (σ : S2) (t k : Nat) : Prop := ∃ p, p < 1000 ∧ (σ.1 18 (1000 * t + p)).toInt = (k : Int)
def SiM (σ : S2) (t : Nat) (k j : Int) : Prop := CoM σ t ∧ cnS (seM σ t) 1000 ≤ 64 * k + j ∧ (∀ p, p < 1000 → (σ.1 18 (1000 * t + p)).toInt = -1 ∨ (0 ≤ (σ.1 18 (1000 * t + p)).toInt ∧ (σ.1 8 t).toInt.toNat.testBit (σ.1 18 (1000 * t + p)).toInt.toNat = true)) ∧ (∀ k' : Nat, (k' : Int) < k → (σ.1 8 t).toInt.toNat.testBit k' = true → HsM σ t k') ∧ (1 ≤ j → HsM σ t k.toNat)
def StM (g : Nat) (σ τ : S2) (t : Nat) (x : Int32) : Prop := IvM g τ ∧ τ.1 0 = σ.1 0 ∧ τ.1 8 = σ.1 8 ∧ τ.1 15 = σ.1 15 ∧ ∃ q, q < 1000 ∧ (σ.1 18 (1000 * t + q)).toInt = -1 ∧ τ.1 18 (1000 * t + q) = x ∧ ∀ i, i ≠ 1000 * t + q → τ.1 18 i = σ.1 18 i
theorem SiM.st {g : Nat} {σ τ : S2} {t : Nat} {k j : Int} {x : Int32} (h : SiM σ t k j) (hs : StM g σ τ t x) (hk : 0 ≤ k) (hx : x.toInt = k) (hb : (σ.1 8 t).toInt.toNat.testBit k.toNat = true) (hj : 0 ≤ j) : SiM τ t k (j + 1) := by
  obtain ⟨h1, h2, h3, h4, h5⟩ := h
  obtain ⟨_, s0, s8, s15, q, hq, hm, hqx, hne⟩ := hs
  have keep : ∀ k', HsM σ t k' → HsM τ t k' := by
    rintro k' ⟨p, hp, e⟩
    refine ⟨p, hp, ?_⟩
    rw [hne _ (fun r => ?_)]
    · exact e
    · have : p = q := by omega
      subst this; omega
  refine ⟨?_, ?_, fun p hp => ?_, fun k' hk' hb' => ?_, fun _ => ⟨q, hq, ?_⟩⟩
  · unfold CoM; rw [s0, s8, s15]; exact h1
  · have := cnS_step (f := seM σ t) (f' := seM τ t) (q := q) (fun p hp => hne _ (by omega)) 1000
    omega
  · by_cases e : p = q
    · subst e; rw [hqx, s8]; right; rw [hx]; exact ⟨hk, hb⟩
    · rw [hne _ (by omega), s8]; exact h3 p hp
  · exact keep _ (h4 k' hk' (by rw [← s8]; exact hb'))
  · rw [hqx, hx]; omega
theorem SiM.next {σ : S2} {t : Nat} {k j : Int} (h : SiM σ t k j) (hk : 0 ≤ k) (hj : j ≤ 64) (hb : (σ.1 8 t).toInt.toNat.testBit k.toNat = true → 1 ≤ j) : SiM σ t (k + 1) 0 := by
  obtain ⟨h1, h2, h3, h4, h5⟩ := h
  refine ⟨h1, by omega, h3, fun k' hk' hb' => ?_, fun q => by exfalso; omega⟩
  by_cases e : (k' : Int) < k
  · exact h4 k' e hb'
  · have : k.toNat = k' := by omega
    rw [this] at hb h5
    exact h5 (hb hb')
theorem SiM.fa {σ : S2} {t : Nat} {k : Int} (h : SiM σ t k 0) (hk : (σ.1 0 3).toInt ≤ k) : FaM σ t := by
  obtain ⟨h1, h2, h3, h4, h5⟩ := h
  refine ⟨h1, fun k' _ hb => ?_, h3⟩
  have := testBit_lt (toNat_lt2 h1.1.1 h1.1.2) hb
  exact h4 k' (by omega) hb
section SI
variable {g : Nat} {Q : Unit × S2 → Prop}
theorem si_walk (k75 : S2 → Int32 → Int32 → Int32 → Int32 → Option (Unit × S2)) : ∀ (d n : Nat) (σ : S2) (x1 x2 x3 x4 x5 : Int32) (q : Nat), d < n → IvM g σ → 0 ≤ x1.toInt → x1.toInt ≤ 10 → (σ.1 0 9).toInt ≤ x1.toInt → (x1.toInt ≤ 9 ∨ g ≠ 0) → 0 ≤ x2.toInt → x2.toInt ≤ 11 → x4.toInt ≤ 64 → 0 ≤ x5.toInt → x5.toInt ≤ 999 → q < 1000 → (σ.1 18 (1000 * Int32.toNatClampNeg x1 + q)).toInt = -1 → ((q : Int) - x5.toInt) % 1000 = d → (∀ (τ : S2) (v : Int32), StM g σ τ (Int32.toNatClampNeg x1) x2 → v.toInt = x4.toInt + 1 → Ok Q (k75 τ x1 x2 x3 v)) → Ok Q (fX12_sits_95 k75 n σ x1 x2 x3 x4 x5) := by
  intro d
  induction d with
  | zero =>
    intro n σ x1 x2 x3 x4 x5 q hd hI a0 a1 ht hg b0 b1 c1 d0 d1 hq hm hz hk
    obtain ⟨n, rfl⟩ : ∃ m, n = m + 1 := ⟨n - 1, by omega⟩
    obtain ⟨c0, c1', ci⟩ := seat_ix a0 a1 d0 d1
    have e5 := i32_nat d0
    have e1 := i32_nat a0
    have one : (1 : Int32).toInt = 1 := rfl
    have m1 : ((-1 : Int32)).toInt = -1 := by decide
    have r4 := i32_rng x4
    have hq4 : q = Int32.toNatClampNeg x5 := by omega
    subst hq4
    unfold fX12_sits_95
    refine ok_ck c0 (by omega) (ok_nmI (fun v1 _ f1 => ?_))
    rw [ci, hm] at f1
    refine ok_eq (fun _ => ?_) (fun h => absurd f1 (by omega))
    refine ok_ck c0 (by omega) (ok_nm (fun σ2 h2 => ?_))
    refine ok_ck (by omega) (by omega) (ok_nm (fun v3 _ => ?_))
    refine ok_ck (by omega) (by omega) (ok_nm (fun σ4 h4 => ok_nmI (fun v5 _ f5 => ?_)))
    rw [i32_add (by omega) (by omega), one] at f5
    rw [ci] at h2
    have hI2 : IvM g σ2 := by
      rw [h2]; exact IvM.w18 hI (by omega) (by omega) (show (-1 : Int) ≤ x2.toInt by omega) (show x2.toInt ≤ 11 by omega)
    have hI4 : IvM g σ4 := by rw [h4]; exact IvM.wI hI2 rfl (i32_rng _).1 (i32_rng _).2
    refine hk σ4 v5 ⟨hI4, by rw [h4, h2]; rfl, by rw [h4, h2]; rfl, by rw [h4, h2]; rfl, Int32.toNatClampNeg x5, by omega, hm, ?_, fun i hi => ?_⟩ f5
    · rw [h4, ux_wI_ne (by rintro ⟨r, _⟩; exact absurd r (by decide)), h2, ux_wI_eq]
    · rw [h4, ux_wI_ne (by rintro ⟨r, _⟩; exact absurd r (by decide)), h2, ux_wI_ne (fun r => hi r.2)]
  | succ d ih =>
    intro n σ x1 x2 x3 x4 x5 q hd hI a0 a1 ht hg b0 b1 c1 d0 d1 hq hm hz hk
    obtain ⟨n, rfl⟩ : ∃ m, n = m + 1 := ⟨n - 1, by omega⟩
    obtain ⟨c0, c1', ci⟩ := seat_ix a0 a1 d0 d1
    have e5 := i32_nat d0
    have e1 := i32_nat a0
    have one : (1 : Int32).toInt = 1 := rfl
    have m1 : ((-1 : Int32)).toInt = -1 := by decide
    have z1000 : (1000 : Int32).toInt = 1000 := rfl
    have r4 := i32_rng x4
    have nx := next_ix d0 d1
    unfold fX12_sits_95
    refine ok_ck c0 (by omega) (ok_nmI (fun v1 _ f1 => ?_))
    rw [ci] at f1
    refine ok_eq (fun hv => ?_) (fun h => ?_)
    · refine ok_ck c0 (by omega) (ok_nm (fun σ2 h2 => ?_))
      refine ok_ck (by omega) (by omega) (ok_nm (fun v3 _ => ?_))
      refine ok_ck (by omega) (by omega) (ok_nm (fun σ4 h4 => ok_nmI (fun v5 _ f5 => ?_)))
      rw [i32_add (by omega) (by omega), one] at f5
      rw [ci] at h2
      have hI2 : IvM g σ2 := by
        rw [h2]; exact IvM.w18 hI (by omega) (by omega) (show (-1 : Int) ≤ x2.toInt by omega) (show x2.toInt ≤ 11 by omega)
      have hI4 : IvM g σ4 := by rw [h4]; exact IvM.wI hI2 rfl (i32_rng _).1 (i32_rng _).2
      refine hk σ4 v5 ⟨hI4, by rw [h4, h2]; rfl, by rw [h4, h2]; rfl, by rw [h4, h2]; rfl, Int32.toNatClampNeg x5, by omega, by omega, ?_, fun i hi => ?_⟩ f5
      · rw [h4, ux_wI_ne (by rintro ⟨r, _⟩; exact absurd r (by decide)), h2, ux_wI_eq]
      · rw [h4, ux_wI_ne (by rintro ⟨r, _⟩; exact absurd r (by decide)), h2, ux_wI_ne (fun r => hi r.2)]
    · refine ok_dz (by omega) (ok_nmI (fun v7 _ f7 => ?_))
      rw [nx] at f7
      exact ih n σ x1 x2 x3 x4 v7 q (by omega) hI a0 a1 ht hg b0 b1 c1 (by omega) (by omega) hq hm (by omega) hk
theorem si_75 (t0 n0 : Int) (k37 : S2 → Int32 → Int32 → Option (Unit × S2)) (x1 x2 x3 : Int32) (a0 : 0 ≤ x1.toInt) (a1 : x1.toInt ≤ 10) (ht : t0 ≤ x1.toInt) (hg : x1.toInt ≤ 9 ∨ g ≠ 0) (b0 : 0 ≤ x2.toInt) (b1 : x2.toInt ≤ 11) (c0 : 0 ≤ x3.toInt) (c1 : x3.toInt ≤ 64) (hk : ∀ (τ : S2) (v : Int32), IvM g τ → (τ.1 0 9).toInt = t0 → (τ.1 0 3).toInt = n0 → SiM τ (Int32.toNatClampNeg x1) (x2.toInt + 1) 0 → v.toInt = x2.toInt + 1 → Ok Q (k37 τ x1 v)) : ∀ (n : Nat) (σ : S2) (x4 : Int32), 0 ≤ x4.toInt → x4.toInt ≤ x3.toInt → IvM g σ → (σ.1 0 9).toInt = t0 → (σ.1 0 3).toInt = n0 → SiM σ (Int32.toNatClampNeg x1) x2.toInt x4.toInt → ((σ.1 8 (Int32.toNatClampNeg x1)).toInt.toNat.testBit x2.toInt.toNat = true ∧ 1 ≤ x3.toInt ∨ (σ.1 8 (Int32.toNatClampNeg x1)).toInt.toNat.testBit x2.toInt.toNat = false ∧ x3.toInt = 0) → 65 - x4.toInt ≤ (n : Int) → Ok Q (fX12_sits_75 k37 n σ x1 x2 x3 x4) := by
  intro n
  induction n with
  | zero => intro σ x4 d0 d1 hI h9 h3 hs hb hm; exfalso; omega
  | succ n ih =>
    intro σ x4 d0 d1 hI h9 h3 hs hb hm
    have one : (1 : Int32).toInt = 1 := rfl
    have hFU : FU = 100000 := rfl
    unfold fX12_sits_75
    refine ok_le (fun he => ok_nmI (fun v8 _ f8 => ?_)) (fun hlt => ?_)
    · rw [i32_add (by omega) (by omega), one] at f8
      refine hk σ v8 hI h9 h3 (hs.next b0 (by omega) (fun q => ?_)) f8
      rcases hb with ⟨_, h⟩ | ⟨h, _⟩
      · omega
      · rw [h] at q; exact absurd q (by decide)
    · have hbt : (σ.1 8 (Int32.toNatClampNeg x1)).toInt.toNat.testBit x2.toInt.toNat = true := by
        rcases hb with ⟨h, _⟩ | ⟨_, h⟩
        · exact h
        · exfalso; omega
      refine ok_ck (by omega) (by omega) (ok_nm (fun v9 _ => ?_))
      refine ok_bi (sX12_mixed σ x2 x4 v9 hI (by omega) (by omega) (by omega)) (fun r10 hr => ?_)
      obtain ⟨q, hq, hm1⟩ := cnS_free (f := seM σ (Int32.toNatClampNeg x1)) 1000 (by have := hs.2.1; omega)
      have hm := Int.emod_nonneg ((q : Int) - r10.toInt) (b := 1000) (by decide)
      have hl := Int.emod_lt_of_pos ((q : Int) - r10.toInt) (b := 1000) (by decide)
      refine si_walk (g := g) (Q := Q) (fX12_sits_75 k37 n) (((q : Int) - r10.toInt) % 1000).toNat FU σ x1 x2 x3 x4 r10 q (by omega) hI a0 a1 (by omega) hg b0 b1 (by omega) hr.1 hr.2 hq hm1 (by omega) (fun τ v hst hv => ?_)
      have hst' := hst
      obtain ⟨s1, s0, s8, _⟩ := hst'
      refine ih τ v (by omega) (by omega) s1 (by rw [s0]; exact h9) (by rw [s0]; exact h3) ?_ (by rw [s8]; exact hb) (by omega)
      rw [hv]
      exact hs.st hst b0 rfl hbt d0
theorem si_37 (t0 n0 : Int) (x1 : Int32) (a0 : 0 ≤ x1.toInt) (a1 : x1.toInt ≤ 10) (ht : t0 ≤ x1.toInt) (hg : x1.toInt ≤ 9 ∨ g ≠ 0) : ∀ (n : Nat) (σ : S2) (x2 : Int32), 0 ≤ x2.toInt → x2.toInt ≤ 12 → IvM g σ → (σ.1 0 9).toInt = t0 → (σ.1 0 3).toInt = n0 → SiM σ (Int32.toNatClampNeg x1) x2.toInt 0 → 13 - x2.toInt ≤ (n : Int) → Ok (fun z => IvM g z.2 ∧ (z.2.1 0 9).toInt = t0 ∧ (z.2.1 0 3).toInt = n0 ∧ FaM z.2 (Int32.toNatClampNeg x1)) (fX12_sits_37 n σ x1 x2) := by
  intro n
  induction n with
  | zero => intro σ x2 b0 b1 hI h9 h3 hs hm; exfalso; omega
  | succ n ih =>
    intro σ x2 b0 b1 hI h9 h3 hs hm
    have h12 : 0 ≤ (σ.1 0 3).toInt ∧ (σ.1 0 3).toInt ≤ 12 := hI.1 0 3
    have z0 : (0 : Int32).toInt = 0 := rfl
    have e4 : (4 : Int32).toInt = 4 := rfl
    have e12 : (12 : Int32).toInt = 12 := rfl
    have hFU : FU = 100000 := rfl
    have e1 := i32_nat a0
    have e2 := i32_nat b0
    unfold fX12_sits_37
    refine ok_le (fun he => ok_some ⟨hI, h9, h3, hs.fa (by omega)⟩) (fun hlt => ?_)
    refine ok_bi (sX12_isIn σ x1 x2 hI a0 a1 b0 (by omega)) (fun r12 hr => ?_)
    obtain ⟨_, _, hii⟩ := hr
    have hbi : ∀ b : Bool, ((σ.1 8 (Int32.toNatClampNeg x1)).toInt.toNat.testBit x2.toInt.toNat = b) = ((σ.1 8 (Int32.toNatClampNeg x1)).toInt.toNat.testBit (Int32.toNatClampNeg x2) = b) := by
      intro b; rw [show x2.toInt.toNat = Int32.toNatClampNeg x2 by omega]
    refine ok_eq (fun hr0 => ?_) (fun hr0 => ?_)
    · unfold fX12_sits_71
      refine si_75 t0 n0 (fX12_sits_37 n) x1 x2 0 a0 a1 ht hg b0 (by omega) (by omega) (by omega) (fun τ v q1 q2 q3 q4 q5 => ih τ v (by omega) (by omega) q1 q2 q3 (by rw [q5]; exact q4) (by omega)) FU σ 0 (by omega) (by omega) hI h9 h3 hs (Or.inr ⟨?_, z0⟩) (by omega)
      rw [hbi]
      cases e : (σ.1 8 (Int32.toNatClampNeg x1)).toInt.toNat.testBit (Int32.toNatClampNeg x2)
      · rfl
      · exact absurd (hii.mpr e) (by omega)
    · have em : (12 * x1).toInt = 12 * x1.toInt := i32_mulL e12 (by omega) (by omega)
      have ea : ((12 * x1) + x2).toInt = 12 * x1.toInt + x2.toInt := by rw [i32_add (by omega) (by omega), em]
      have en := i32_nat (i := (12 * x1) + x2) (by omega)
      have ei : Int32.toNatClampNeg ((12 * x1) + x2) = 12 * Int32.toNatClampNeg x1 + Int32.toNatClampNeg x2 := by omega
      refine ok_ck (by omega) (by omega) (ok_nmI (fun v14 _ f14 => ?_))
      have hbt := hii.mp (by omega)
      have hc : 1 ≤ v14.toInt := by rw [f14, ei]; exact hs.1.2 _ (by omega) hbt
      have hc2 : 0 ≤ v14.toInt ∧ v14.toInt ≤ 16 := by rw [f14]; exact hI.1 15 _
      have e4m : (4 * v14).toInt = 4 * v14.toInt := i32_mulL e4 (by omega) (by omega)
      unfold fX12_sits_71
      exact si_75 t0 n0 (fX12_sits_37 n) x1 x2 (4 * v14) a0 a1 ht hg b0 (by omega) (by omega) (by omega) (fun τ v q1 q2 q3 q4 q5 => ih τ v (by omega) (by omega) q1 q2 q3 (by rw [q5]; exact q4) (by omega)) FU σ 0 (by omega) (by omega) hI h9 h3 hs (Or.inl ⟨by rw [hbi]; exact hbt, by omega⟩) (by omega)
theorem si_2 (t0 n0 : Int) (x1 : Int32) (a0 : 0 ≤ x1.toInt) (a1 : x1.toInt ≤ 10) (ht : t0 ≤ x1.toInt) (hg : x1.toInt ≤ 9 ∨ g ≠ 0) : ∀ (n : Nat) (σ : S2) (x2 : Int32), 0 ≤ x2.toInt → x2.toInt ≤ 1000 → IvM g σ → (σ.1 0 9).toInt = t0 → (σ.1 0 3).toInt = n0 → CoM σ (Int32.toNatClampNeg x1) → (∀ p : Nat, (p : Int) < x2.toInt → (σ.1 18 (1000 * Int32.toNatClampNeg x1 + p)).toInt = -1) → 1001 - x2.toInt ≤ (n : Int) → Ok (fun z => IvM g z.2 ∧ (z.2.1 0 9).toInt = t0 ∧ (z.2.1 0 3).toInt = n0 ∧ FaM z.2 (Int32.toNatClampNeg x1)) (fX12_sits_2 n σ x1 x2) := by
  intro n
  induction n with
  | zero => intro σ x2 b0 b1 hI h9 h3 hc hs hm; exfalso; omega
  | succ n ih =>
    intro σ x2 b0 b1 hI h9 h3 hc hs hm
    have z0 : (0 : Int32).toInt = 0 := rfl
    have one : (1 : Int32).toInt = 1 := rfl
    have m1 : ((-1 : Int32)).toInt = -1 := by decide
    have e1000 : (1000 : Int32).toInt = 1000 := rfl
    have hFU : FU = 100000 := rfl
    have e1 := i32_nat a0
    have e2 := i32_nat b0
    unfold fX12_sits_2
    refine ok_le (fun he => ?_) (fun hlt => ?_)
    · refine ok_ck (by omega) (by omega) (ok_nm (fun σ15 h15 => ?_))
      have hI15 : IvM g σ15 := by rw [h15]; exact IvM.wI hI rfl (i32_rng _).1 (i32_rng _).2
      have r18 : σ15.1 18 = σ.1 18 := by rw [h15]; rfl
      refine si_37 t0 n0 x1 a0 a1 ht hg FU σ15 0 (by omega) (by omega) hI15 (by rw [h15]; exact h9) (by rw [h15]; exact h3) ⟨?_, ?_, fun p hp => Or.inl ?_, fun k' hk' _ => ?_, fun q => ?_⟩ (by omega)
      · rw [h15]; exact hc
      · rw [cnS_zero 1000 (fun p hp => by show (σ15.1 18 _).toInt = -1; rw [r18]; exact hs p (by omega))]; omega
      · rw [r18]; exact hs p (by omega)
      · exfalso; omega
      · exfalso; omega
    · obtain ⟨c0, c1', ci⟩ := seat_ix a0 a1 b0 (show x2.toInt ≤ 999 by omega)
      refine ok_ck c0 (by omega) (ok_nm (fun σ16 h16 => ok_nmI (fun v17 _ f17 => ?_)))
      rw [i32_add (by omega) (by omega), one] at f17
      rw [ci] at h16
      have hI16 : IvM g σ16 := by
        rw [h16]; exact IvM.w18 hI (by omega) (by omega) (show (-1 : Int) ≤ (-1 : Int32).toInt by omega) (show (-1 : Int32).toInt ≤ 11 by omega)
      refine ih σ16 v17 (by omega) (by omega) hI16 (by rw [h16]; exact h9) (by rw [h16]; exact h3) (by rw [h16]; exact hc) (fun p hp => ?_) (by omega)
      by_cases e : p = Int32.toNatClampNeg x2
      · subst e; rw [h16, ux_wI_eq]; exact m1
      · rw [h16, ux_wI_ne (by rintro ⟨_, r⟩; omega)]; exact hs p (by omega)
end SI
