/-! relation C: relation B and the tables -/
noncomputable def RelC (σ ρ : S2) : Prop := RelB σ ρ ∧ RTab σ ρ
section RELC
variable {σ ρ σ' ρ' : S2} {τ δ : Nat} {a b r q : Int32}
theorem RTab.kept (h : RTab σ ρ) (e6 : σ'.1 0 6 = σ.1 0 6) (h10 : (σ.1 0 6).toInt ≤ 10) (hb : ∀ n : Nat, n < 10 → KB n σ σ') (hk : KR 10 ρ ρ') (hs : ∀ n k : Nat, (n : Int) < (σ.1 0 6).toInt → k < 12 → (ρ.1 8 n).toInt.toNat.testBit k = true → σ'.1 9 k = σ.1 9 k) : RTab σ' ρ' := fun n hn => by
  rw [e6] at hn
  exact (h n hn).kept (N := 10) (by omega) (hb n (by omega)) hk (fun k hk ht => hs n k hn hk ht)
theorem RelC.kr {m : Nat} (h : RelC σ ρ) (hB : RelB σ' ρ') (hI : IvC 0 τ σ) (hc : Fr gC m σ σ') (hk : KR 10 ρ ρ') (e5 : m.testBit 5 = false) (e9 : m.testBit 9 = false) (e24 : m.testBit 24 = false) : RelC σ' ρ' := by
  have h10 : (σ.1 0 6).toInt ≤ 10 := (hI.1 0 6).2
  exact ⟨hB, h.2.kept (hc.at 0 6 24 rfl e24) h10 (fun n _ => KB.of hc e9) hk (fun n k _ _ _ => hc.at 9 k 5 rfl e5)⟩
theorem RelC.of {m m2 : Nat} (h : RelC σ ρ) (hB : RelB σ' ρ') (hI : IvC 0 τ σ) (hc : Fr gC m σ σ') (hm : Fr gM m2 ρ ρ') (e5 : m.testBit 5 = false) (e9 : m.testBit 9 = false) (e24 : m.testBit 24 = false) (f9 : m2.testBit 9 = false) : RelC σ' ρ' := h.kr hB hI hc (KR.of hm f9) e5 e9 e24
/-- a table's set lies below 2 to the keepers' count -/
theorem set_lt (hM : IvM 0 ρ) {n : Nat} (hn : (n : Int) < (ρ.1 0 9).toInt) : 0 ≤ (ρ.1 8 n).toInt ∧ (ρ.1 8 n).toInt.toNat < 2 ^ (ρ.1 0 3).toInt.toNat := by
  have f := (hM.2.2.1 n (Or.inl hn)).1.1
  have c : ((2 ^ (ρ.1 0 3).toInt.toNat : Nat) : Int) = (2 : Int) ^ (ρ.1 0 3).toInt.toNat := by rw [Int.natCast_pow]; rfl
  exact ⟨f.1, by omega⟩
theorem set_le (hM : IvM 0 ρ) {n : Nat} (hn : (n : Int) < (ρ.1 0 9).toInt) : (ρ.1 8 n).toInt ≤ 4095 := by
  have f := set_lt hM hn
  have b3 : 0 ≤ (ρ.1 0 3).toInt ∧ (ρ.1 0 3).toInt ≤ 12 := hM.1 0 3
  have w : 2 ^ (ρ.1 0 3).toInt.toNat ≤ 2 ^ 12 := Nat.pow_le_pow_right (by decide) (by omega)
  have e : 2 ^ 12 = 4096 := by decide
  omega
theorem sc_keeper (hR : RelC σ ρ) (hI : IvC 0 τ σ) (hM : IvM 0 ρ) (h : fX11_keeper τ σ a b = some (r, σ')) (h2 : fX12_keeper ρ a b = some (q, ρ')) : r = q ∧ RelC σ' ρ' := by
  have t := sb_keeper hR.1 hI hM h h2
  have fc := wfX11_keeper (m := 248) rfl τ σ a b (Fr.rf σ) _ h
  have fm := wfX12_keeper (m := 104) rfl ρ a b (Fr.rf ρ) _ h2
  have h10 : (σ.1 0 6).toInt ≤ 10 := (hI.1 0 6).2
  have k1 : ρ.1 0 3 = σ.1 7 5 := hR.1.1.1.1
  have b7 : 0 ≤ (σ.1 7 5).toInt ∧ (σ.1 7 5).toInt ≤ 12 := hI.1 7 5
  have n7 := i32_nat b7.1
  have hC : ρ.1 0 9 = σ.1 0 6 := hR.1.2.2.2.1
  refine ⟨t.1, t.2, hR.2.kept (fc.at 0 6 24 rfl rfl) h10 (fun n _ => KB.of fc rfl) (KR.of fm rfl) (fun n k hn hk ht => ?_)⟩
  have s := set_lt hM (n := n) (by rw [hC]; exact hn)
  rw [k1] at s
  have hlt : (k : Int) < (σ.1 7 5).toInt := by
    by_cases c : (k : Int) < (σ.1 7 5).toInt
    · exact c
    · rw [Nat.testBit_lt_two_pow (Nat.lt_of_lt_of_le s.2 (Nat.pow_le_pow_right (by decide) (by omega)))] at ht; cases ht
  rcases c_keeper (a := a) (b := b) hI _ h with ⟨e, _⟩ | ⟨_, _, _, _, _, e, _⟩
  · have e : σ' = σ := e
    rw [e]
  · have e : σ'.1 9 k = if k = (σ.1 7 5).toNatClampNeg then a else σ.1 9 k := e k
    rw [e, if_neg (by omega)]
theorem sc_harm (hR : RelC σ ρ) (hI : IvC 0 τ σ) (hM : IvM 0 ρ) (h : fX11_harm τ σ a = some (r, σ')) (h2 : fX12_harm ρ a = some (q, ρ')) : RelC σ' ρ' := hR.kr (sb_harm hR.1 hI hM h h2) hI (wfX11_harm (m := 9176065) rfl τ σ a (Fr.rf σ) _ h) (kr_harm hI (hM.1 0 3).2 _ h2) rfl rfl rfl
theorem sc_order (hR : RelC σ ρ) (hI : IvC 0 τ σ) (hM : IvM 0 ρ) (h : fX11_order τ σ a = some (r, σ')) (h2 : fX12_order ρ a = some (q, ρ')) : RelC σ' ρ' := hR.kr (RelB.fr (a := 8586241) (b := 197121) hR.1 hI (wfX11_order (m := 8586241) rfl τ σ a (Fr.rf σ) _ h) (wfX12_order (m := 197121) rfl ρ a (Fr.rf ρ) _ h2) rfl rfl) hI (wfX11_order (m := 8586241) rfl τ σ a (Fr.rf σ) _ h) (kr_order hI (hM.1 0 3).2 _ h2) rfl rfl rfl
theorem sc_table (hR : RelC σ ρ) (hI : IvC 0 τ σ) (hM : IvM 0 ρ) (h : fX11_table τ σ a b = some (r, δ, σ')) (h2 : fX12_table ρ a b = some (q, ρ')) : RelC σ' ρ' := by
  have hB := sb_table hR.1 hI hM h h2
  have hM' : IvM 0 ρ' := by
    obtain ⟨z, hz, p, _⟩ := sX12_table ρ a b hM
    rw [h2] at hz; cases hz; exact p
  have hτ := hI.2.2
  refine ⟨hB, ?_⟩
  rcases tab_split hR.1.1.1 hR.1.2.1 hR.1.2.2.2.1 hI hM hM' h h2 with ⟨e1, e2⟩ | ⟨hs, h10, σ8, σ10, ρ1, ρ2, ρ3, r9, r5, u, hD, hMT, f9, m2, m3, hh⟩
  · rw [e1, e2]; exact hR.2
  rcases hh with ⟨hPC, h9, u2, ρ4, k4, e2, _⟩ | ⟨e1, e2⟩
  · have m := tab_made hR.1.1.1 hR.1.2.1 hR.1.2.2.2.1 hI hs h10 hD hMT f9 m2 m3 hPC h9 k4 e2
    have ft := tabNew_fr h9
    have fw := wfX3_workOut (m := 8388609) rfl τ σ8 (Fr.rf σ8) _ f9
    have e6 : σ'.1 0 6 = σ.1 0 6 + 1 := by rw [ft.2, fw.at 0 6 24 rfl rfl, hD.1 0 6 (by decide) (by decide) (by decide) (fun w => absurd w.1 (by decide))]
    have z1 := i_1
    have b6 : 0 ≤ (σ.1 0 6).toInt := (hI.1 0 6).1
    have s1 : (σ.1 0 6 + 1).toInt = (σ.1 0 6).toInt + 1 := by rw [i32_add (by omega) (by omega)]; omega
    intro n hn
    rw [e6, s1] at hn
    by_cases c : n = τ
    · rw [c]; exact m.1
    · exact (hR.2 n (by omega)).kept (N := τ) (by omega) (m.2.1 n (by omega)) m.2.2.1 (fun k _ _ => m.2.2.2 k)
  · obtain ⟨c0, _⟩ := hD
    obtain ⟨⟨w8, w9, w13, w22⟩, wk, wl, wf, wr, wl2, wk2⟩ := hMT
    have b6 : 0 ≤ (σ.1 0 6).toInt := (hI.1 0 6).1
    have hC : ρ.1 0 9 = σ.1 0 6 := hR.1.2.2.2.1
    have nt := i32_nat (i := ρ.1 0 9) (by rw [hC]; exact b6)
    have et : (ρ.1 0 9).toNatClampNeg = τ := by rw [hC] at nt ⊢; omega
    rw [et] at wr wl2 wk2
    have fw := wfX3_workOut (m := 8388609) rfl τ σ8 (Fr.rf σ8) _ f9
    have fn := wfX12_numbers (m := 1) rfl ρ1 (ρ.1 0 9) (Fr.rf ρ1) _ m2
    have nr : NR τ ρ2 ρ3 := by have := nr_reads _ m3; rw [et] at this; exact this
    have q : ∀ k i : Nat, 8 ≤ k → k ≤ 18 → ¬ ((k = 10 ∨ k = 11 ∨ k = 12) ∧ i = τ) → ρ3.1 k i = ρ1.1 k i := fun k i h8 h18 hn => (nr k i h8 h18 hn).trans (fn k i (by rw [gM_9 h8 h18]; rfl)).1
    have kr1 : KR τ ρ ρ1 := by
      refine ⟨fun k i hk hi => ?_, fun i hi => wl2 i (Or.inl hi), fun k i hk hi => wk2 k i hk (Or.inl hi), fun i hi => wf 18 i (fun w => absurd w.1 (by decide)) (by decide) (by decide) (by decide) (by decide) (by decide) (by decide)⟩
      by_cases c : k = 8 ∨ k = 9 ∨ k = 13
      · exact wr k i c (by omega)
      · exact wf k i (by omega) (by omega) (by omega) (by omega) (by omega) (by omega) (by omega)
    have kr2 : KR τ ρ1 ρ3 := ⟨fun k i hk hi => q k i (by omega) (by omega) (by omega), fun i hi => q 14 i (by decide) (by decide) (by omega), fun k i hk hi => q k i (by omega) (by omega) (by omega), fun i hi => q 18 i (by decide) (by decide) (by omega)⟩
    rw [e1, e2]
    intro n hn
    have e6 : σ10.1 0 6 = σ.1 0 6 := by rw [fw.at 0 6 24 rfl rfl, c0 0 6 (by decide) (by decide) (by decide) (fun w => absurd w.1 (by decide))]
    rw [e6] at hn
    have kb1 : KB n σ σ8 := ⟨fun i _ => c0 _ i (by omega) (by omega) (by omega) (by omega), fun j i hj => c0 _ i (by omega) (by omega) (by omega) (by omega)⟩
    exact (hR.2 n hn).kept (N := τ) (by omega) (kb1.trans (KB.of fw rfl)) (kr1.trans kr2) (fun k _ _ => by rw [fw.at 9 k 5 rfl rfl, c0 9 k (by decide) (by decide) (by decide) (fun w => absurd w.1 (by decide))])
theorem q_place {x : Int32} : Pt (fun r => (r.toInt = 0 ∧ ¬ (0 ≤ x.toInt ∧ x.toInt ≤ 999)) ∨ (r.toInt = 1 ∧ 0 ≤ x.toInt ∧ x.toInt ≤ 999)) (fX11_isPlace τ σ x) := by
  have z0 := i_0
  have z1 := i_1
  have z1000 : (1000 : Int32).toInt = 1000 := rfl
  unfold fX11_isPlace fX11_isPlace_0
  refine pt_lt (fun h => pt_some ?_) (fun h => pt_le (fun h2 => pt_some ?_) (fun h2 => pt_some ?_))
  · rw [z0]; omega
  · rw [z0]; omega
  · rw [z1]; omega
theorem an_seat (hR : RelC σ ρ) (hI : IvC 0 τ σ) (hM : IvM 0 ρ) (h : fX11_seat τ σ a b = some r) (h2 : fX12_seat ρ a b = some q) : r = q := by
  have z0 := i_0
  have z999 : (999 : Int32).toInt = 999 := rfl
  have hC : ρ.1 0 9 = σ.1 0 6 := hR.1.2.2.2.1
  have b6 : 0 ≤ (σ.1 0 6).toInt ∧ (σ.1 0 6).toInt ≤ 10 := hI.1 0 6
  unfold fX11_seat fX11_seat_0 at h
  unfold fX12_seat fX12_seat_0 fX12_seat_19 at h2
  obtain ⟨r1, f1, h2⟩ := biS h2
  have g1 := q_tableM hM _ f1
  rw [hC] at g1
  rw [tableAt_q hI] at h
  by_cases c : 0 ≤ a.toInt ∧ a.toInt < (σ.1 0 6).toInt
  · rw [if_pos c] at h
    rw [if_neg (fun w => by rw [w] at g1; omega)] at h2
    rcases btS h with ⟨e, _⟩ | ⟨b', e, h⟩
    · cases e
    have e : b' = a.toNatClampNeg + 1 := (Option.some.inj (Option.some.inj e)).symm
    rw [e] at h
    obtain ⟨r3, f3, h⟩ := biS h
    have g3 := q_place _ f3
    obtain ⟨r4, f4, h2⟩ := biS h2
    have g4 := q_in _ f4
    rw [z0, z999] at g4
    by_cases p : 0 ≤ b.toInt ∧ b.toInt ≤ 999
    · rw [if_neg (fun w => by rw [w] at g3; omega)] at h
      rw [if_neg (fun w => by rw [w] at g4; omega)] at h2
      obtain ⟨_, h⟩ := ckS h
      obtain ⟨_, h2⟩ := ckS h2
      dsimp only [nm] at h h2
      have na := i32_nat c.1
      have nb := i32_nat p.1
      have ix := seat_ix (x1 := a) (x4 := b) c.1 (by omega) p.1 p.2
      have T := (hR.2 a.toNatClampNeg (by omega)).2.2.2.2.2.1 b.toNatClampNeg (by omega)
      rw [ix.2.2, T] at h2
      generalize σ.1 (182 + 6 * (a.toNatClampNeg + 1) + 4) b.toNatClampNeg = v at h h2
      by_cases w : v = -1
      · rw [if_pos w] at h h2
        cases h; cases h2; rfl
      · rw [if_neg w] at h h2
        obtain ⟨_, h⟩ := ckS h
        obtain ⟨_, h2⟩ := ckS h2
        cases h; cases h2; rfl
    · rw [if_pos (Int32.toInt_inj.mp (by rw [z0]; omega))] at h
      rw [if_pos (Int32.toInt_inj.mp (by rw [z0]; omega))] at h2
      cases h; cases h2; rfl
  · rw [if_neg c] at h
    have h : some (-1 : Int32) = some r := h
    rw [if_pos (Int32.toInt_inj.mp (by rw [z0]; omega))] at h2
    cases h; cases h2; rfl
theorem ones_q {x : Int32} (h0 : 0 ≤ x.toInt) (h1 : x.toInt ≤ 4095) : ∀ (N : Nat) (x1 x2 : Int32), 0 ≤ x2.toInt → x2.toInt ≤ 12 → x1 = Int32.ofNat (popN x.toInt.toNat x2.toInt.toNat) → Pt (fun r => r = Int32.ofNat (popN x.toInt.toNat 12)) (fX12_ones_4 N ρ x x1 x2) := by
  have z1 := i_1
  have z12 := i_12
  intro N
  induction N with
  | zero => intro x1 x2 _ _ _; exact pt_none
  | succ N ih =>
    intro x1 x2 k0 k1 e
    unfold fX12_ones_4
    refine pt_le (fun h => pt_some ?_) (fun h => pt_nm (fun v1 e1 => pt_nm (fun v2 e2 => ?_)))
    · rw [e, show x2.toInt.toNat = 12 by omega]
    · have e4 : (x2 + 1).toInt = x2.toInt + 1 := by rw [i32_add (by omega) (by omega)]; omega
      have eb := bit_sar h0 h1 k0 (by omega)
      have ps := pop_step (x := x) k0 (by omega)
      rw [e2]
      refine ih v1 (x2 + 1) (by omega) (by omega) ?_
      rw [e1, e, ps]
      cases qb : x.toInt.toNat.testBit x2.toNatClampNeg
      · rw [qb, if_neg (by decide)] at eb
        rw [show (x >>> (x2 &&& 31)) &&& 1 = 0 from Int32.toInt_inj.mp (by rw [eb]; rfl), if_neg (by decide), Nat.add_zero, Int32.add_zero]
      · rw [qb, if_pos rfl] at eb
        rw [show (x >>> (x2 &&& 31)) &&& 1 = 1 from Int32.toInt_inj.mp (by rw [eb]; rfl), if_pos rfl, ofNat_succ]
theorem noon_lp {x2 x3 x5 : Int32} : ∀ (N M : Nat) (k r q : Int32), 1 ≤ k.toInt → k.toInt ≤ 100 → x5.toInt ≤ 12 → fX11_noon_49 τ N σ x2 x3 x5 k = some r → fX12_noon_46 M ρ x2 x3 x5 k = some q → r = q := by
  have z0 := i_0
  have z1 := i_1
  intro N
  induction N with
  | zero => intro M k r q _ _ _ h; cases h
  | succ N ih =>
    intro M k r q k1 k2 h5 h h2
    cases M with
    | zero => cases h2
    | succ M =>
      unfold fX11_noon_49 at h
      unfold fX12_noon_46 at h2
      by_cases c : x5 < k
      · rw [if_pos c] at h h2
        cases h; cases h2; rfl
      · rw [if_neg c] at h h2
        have c' : ¬ x5.toInt < k.toInt := fun w => c (Int32.lt_iff_toInt_lt.mpr w)
        have kn : ¬ k = 0 := fun w => by rw [w, z0] at k1; omega
        obtain ⟨r1, f1, h⟩ := biS h
        unfold fX11_upward fX11_upward_0 dz at f1
        rw [if_neg (fun w => by have := Int32.le_iff_toInt_le.mp w; omega), if_neg kn] at f1
        unfold dz at h2
        rw [if_neg kn] at h2
        cases f1
        have e : (k + 1).toInt = k.toInt + 1 := by rw [i32_add (by omega) (by omega)]; omega
        by_cases d : x3 < ((x2 + k) - 1) / k
        · rw [if_pos d] at h h2
          exact ih M (k + 1) r q (by omega) (by omega) h5 h h2
        · rw [if_neg d] at h h2
          cases h; cases h2; rfl
theorem an_noon {c : Int32} (hR : RelC σ ρ) (hI : IvC 0 τ σ) (hM : IvM 0 ρ) (h : fX11_noon τ σ a b c = some r) (h2 : fX12_noon ρ a b c = some q) : r = q := by
  have z0 := i_0
  have z9 : (9999 : Int32).toInt = 9999 := rfl
  have hC : ρ.1 0 9 = σ.1 0 6 := hR.1.2.2.2.1
  have b6 : 0 ≤ (σ.1 0 6).toInt ∧ (σ.1 0 6).toInt ≤ 10 := hI.1 0 6
  unfold fX11_noon fX11_noon_0 at h
  unfold fX12_noon fX12_noon_0 at h2
  obtain ⟨r1, f1, h2⟩ := biS h2
  have g1 := q_tableM hM _ f1
  rw [hC] at g1
  rw [tableAt_q hI] at h
  by_cases w : 0 ≤ a.toInt ∧ a.toInt < (σ.1 0 6).toInt
  · rw [if_pos w] at h
    rw [if_neg (fun w => by rw [w] at g1; omega)] at h2
    rcases btS h with ⟨e, _⟩ | ⟨b', e, h⟩
    · cases e
    have e : b' = a.toNatClampNeg + 1 := (Option.some.inj (Option.some.inj e)).symm
    rw [e] at h
    have na := i32_nat w.1
    obtain ⟨r5, f5, h2⟩ := biS h2
    have g5 := q_in _ f5
    rw [z0, z9] at g5
    have out : ¬ ((0 ≤ b.toInt ∧ b.toInt ≤ 9999) ∧ (0 ≤ c.toInt ∧ c.toInt ≤ 9999)) → q = -1 := fun hn => by
      by_cases p : r5 = 0
      · rw [if_pos p] at h2; cases h2; rfl
      · rw [if_neg p] at h2
        have p' : r5.toInt ≠ 0 := fun w => p (Int32.toInt_inj.mp (w.trans z0.symm))
        obtain ⟨r7, f7, h2⟩ := biS h2
        have g7 := q_in _ f7
        rw [z0, z9] at g7
        rw [if_pos (Int32.toInt_inj.mp (by rw [z0]; omega))] at h2
        cases h2; rfl
    by_cases p1 : b < 0
    · rw [if_pos p1] at h
      have := Int32.lt_iff_toInt_lt.mp p1
      rw [out (by omega)]; cases h; rfl
    rw [if_neg p1] at h
    have p1' : ¬ b.toInt < (0 : Int32).toInt := fun w => p1 (Int32.lt_iff_toInt_lt.mpr w)
    by_cases p2 : 9999 < b
    · rw [if_pos p2] at h
      have := Int32.lt_iff_toInt_lt.mp p2
      rw [out (by omega)]; cases h; rfl
    rw [if_neg p2] at h
    have p2' : ¬ (9999 : Int32).toInt < b.toInt := fun w => p2 (Int32.lt_iff_toInt_lt.mpr w)
    by_cases p3 : c < 0
    · rw [if_pos p3] at h
      have := Int32.lt_iff_toInt_lt.mp p3
      rw [out (by omega)]; cases h; rfl
    rw [if_neg p3] at h
    have p3' : ¬ c.toInt < (0 : Int32).toInt := fun w => p3 (Int32.lt_iff_toInt_lt.mpr w)
    by_cases p4 : c ≤ 9999
    · rw [if_pos p4] at h
      have p4' := Int32.le_iff_toInt_le.mp p4
      rw [if_neg (fun w => by rw [w] at g5; omega)] at h2
      obtain ⟨r7, f7, h2⟩ := biS h2
      have g7 := q_in _ f7
      rw [z0, z9] at g7
      rw [if_neg (fun w => by rw [w] at g7; omega)] at h2
      obtain ⟨_, h2⟩ := ckS h2
      dsimp only [nm] at h2
      have hn : ((a.toNatClampNeg : Nat) : Int) < (ρ.1 0 9).toInt := by rw [hC]; omega
      have T := (hR.2 a.toNatClampNeg (by omega)).2.1.1
      have s0 := (set_lt hM hn).1
      have s1 := set_le hM hn
      obtain ⟨r6, f6, h⟩ := biS h
      rw [← T, bitCount_eq s0 s1] at f6
      obtain ⟨r10, f10, h2⟩ := biS h2
      unfold fX12_ones fX12_ones_0 at f10
      have o := ones_q s0 s1 FU 0 0 (by decide) (by decide) rfl _ f10
      rw [o] at h2
      cases f6
      have pl := popN_le (ρ.1 8 a.toNatClampNeg).toInt.toNat 12
      exact noon_lp FU FU 1 r q (by decide) (by decide) (by rw [Int32.toInt_ofNat_of_lt (by omega)]; omega) h h2
    · rw [if_neg p4] at h
      have p4' : ¬ c.toInt ≤ (9999 : Int32).toInt := fun w => p4 (Int32.le_iff_toInt_le.mpr w)
      rw [out (by omega)]; cases h; rfl
  · rw [if_neg w] at h
    have h : some (-1 : Int32) = some r := h
    rw [if_pos (Int32.toInt_inj.mp (by rw [z0]; omega))] at h2
    cases h; cases h2; rfl
end RELC
