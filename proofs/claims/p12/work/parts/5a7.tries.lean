/-! tries works on row 10 alone: the tables that stand are not touched by harm and order -/
section TRIES
variable {τ g : Nat} {σ1 ρ0 : S2} {Q : Unit × S2 → Prop}
theorem KR.rf (N : Nat) (ρ : S2) : KR N ρ ρ := ⟨fun _ _ _ _ => rfl, fun _ _ => rfl, fun _ _ _ _ => rfl, fun _ _ => rfl⟩
/-- a write that leaves the first N rows alone -/
theorem KR.w {N : Nat} {ρ : S2} (h : KR N ρ0 ρ) {k i : Nat} (x : Int32) (h1 : (k = 8 ∨ k = 9 ∨ k = 10 ∨ k = 11 ∨ k = 12 ∨ k = 13 ∨ k = 17) → N ≤ i) (h2 : k = 14 → 80 * N ≤ i) (h3 : (k = 15 ∨ k = 16) → 12 * N ≤ i) (h4 : k = 18 → 1000 * N ≤ i) : KR N ρ0 (ux_wI ρ k i x) := by
  have o : ∀ k' i' : Nat, ¬ (k' = k ∧ i' = i) → (ux_wI ρ k i x).1 k' i' = ρ.1 k' i' := fun k' i' hn => by
    by_cases q : k' = k
    · subst q
      exact wI_i _ _ _ (fun w => hn ⟨rfl, w⟩)
    · exact wI_k _ _ _ _ q
  obtain ⟨a, b, c, d⟩ := h
  refine ⟨fun k' i' hk hi => ?_, fun i' hi => ?_, fun k' i' hk hi => ?_, fun i' hi => ?_⟩
  · rw [o k' i' (fun w => by have := h1 (by rw [← w.1]; exact hk); omega)]; exact a k' i' hk hi
  · rw [o 14 i' (fun w => by have := h2 w.1.symm; omega)]; exact b i' hi
  · rw [o k' i' (fun w => by have := h3 (by rw [← w.1]; exact hk); omega)]; exact c k' i' hk hi
  · rw [o 18 i' (fun w => by have := h4 w.1.symm; omega)]; exact d i' hi
theorem KR.nr {ρ ρ' : S2} (h : KR 10 ρ0 ρ) (hn : NR 10 ρ ρ') : KR 10 ρ0 ρ' := by
  obtain ⟨a, b, c, d⟩ := h
  exact ⟨fun k i hk hi => (hn k i (by omega) (by omega) (by omega)).trans (a k i hk hi), fun i hi => (hn 14 i (by decide) (by decide) (by omega)).trans (b i hi), fun k i hk hi => (hn k i (by omega) (by omega) (by omega)).trans (c k i hk hi), fun i hi => (hn 18 i (by decide) (by decide) (by omega)).trans (d i hi)⟩
theorem KR.fr {N m : Nat} {ρ ρ' : S2} (h : KR N ρ0 ρ) (hf : Fr gM m ρ ρ') (e : m.testBit 9 = false) : KR N ρ0 ρ' := h.trans (KR.of hf e)
theorem z10 : (10 : Int32).toInt = 10 := rfl
theorem n10 : (10 : Int32).toNatClampNeg = 10 := rfl
theorem kr_95 {k75 : S2 → Int32 → Int32 → Int32 → Int32 → Option (Unit × S2)} {x2 x3 : Int32} (hk : ∀ (ρ : S2) (v : Int32), KR 10 ρ0 ρ → Pt Q (k75 ρ 10 x2 x3 v)) : ∀ (N : Nat) (ρ : S2) (x4 x5 : Int32), KR 10 ρ0 ρ → 0 ≤ x5.toInt → x5.toInt ≤ 999 → Pt Q (fX12_sits_95 k75 N ρ 10 x2 x3 x4 x5) := by
  intro N
  induction N with
  | zero => intro ρ x4 x5 _ _ _; exact pt_none
  | succ N ih =>
    intro ρ x4 x5 h h0 h1
    have ix := seat_ix (x1 := 10) (by rw [z10]; omega) (by rw [z10]; omega) h0 h1
    rw [n10] at ix
    unfold fX12_sits_95
    refine pt_ck (fun _ _ _ => pt_nm (fun v1 _ => pt_if (fun _ => ?_) (fun _ => pt_dz (fun _ => pt_nm (fun v7 e7 => ?_)))))
    · refine pt_ck (fun _ _ _ => pt_nm (fun s2 e2 => pt_ck (fun _ _ _ => pt_nm (fun v3 _ => pt_ck (fun _ _ _ => pt_nm (fun s4 e4 => pt_nm (fun v5 _ => hk _ _ ?_)))))))
      have h2 : KR 10 ρ0 s2 := by
        rw [e2]; exact h.w _ (by omega) (by omega) (by omega) (by omega)
      rw [e4, n10]; exact h2.w _ (by omega) (by omega) (by omega) (by omega)
    · have n7 := next_ix h0 h1
      rw [← e7] at n7
      exact ih ρ x4 v7 h (by omega) (by omega)
theorem kr_75 {k37 : S2 → Int32 → Int32 → Option (Unit × S2)} (hI : IvC g τ σ1) {x2 x3 : Int32} (hk : ∀ (ρ : S2) (v : Int32), KR 10 ρ0 ρ → Pt Q (k37 ρ 10 v)) : ∀ (N : Nat) (ρ : S2) (x4 : Int32), KR 10 ρ0 ρ → Pt Q (fX12_sits_75 k37 N ρ 10 x2 x3 x4) := by
  intro N
  induction N with
  | zero => intro ρ x4 _; exact pt_none
  | succ N ih =>
    intro ρ x4 h
    unfold fX12_sits_75
    refine pt_if (fun _ => pt_nm (fun v8 _ => hk _ _ h)) (fun _ => pt_ck (fun _ _ _ => pt_nm (fun v9 _ => pt_bi (P := fun r => 0 ≤ r.toInt ∧ r.toInt ≤ 999) (fun r hr => ?_) (fun r10 h10 => kr_95 (fun ρ2 v h2 => ih ρ2 v h2) FU ρ x4 r10 h h10.1 h10.2))))
    rw [mixed_eq (τ := τ) (σ := σ1)] at hr
    exact strewn_rng hI σ1 _ r hr
theorem kr_37 (hI : IvC g τ σ1) : ∀ (N : Nat) (ρ : S2) (x2 : Int32), KR 10 ρ0 ρ → Pt (fun z : Unit × S2 => KR 10 ρ0 z.2) (fX12_sits_37 N ρ 10 x2) := by
  intro N
  induction N with
  | zero => intro ρ x2 _; exact pt_none
  | succ N ih =>
    intro ρ x2 h
    unfold fX12_sits_37 fX12_sits_71
    refine pt_if (fun _ => pt_some h) (fun _ => pt_bi (P := fun _ => True) (fun _ _ => trivial) (fun r12 _ => pt_if (fun _ => ?_) (fun _ => pt_ck (fun _ _ _ => pt_nm (fun v14 _ => ?_)))))
    · exact kr_75 hI (fun ρ2 v h2 => ih ρ2 v h2) FU ρ 0 h
    · exact kr_75 hI (fun ρ2 v h2 => ih ρ2 v h2) FU ρ 0 h
theorem kr_2 (hI : IvC g τ σ1) : ∀ (N : Nat) (ρ : S2) (x2 : Int32), KR 10 ρ0 ρ → 0 ≤ x2.toInt → x2.toInt ≤ 1000 → Pt (fun z : Unit × S2 => KR 10 ρ0 z.2) (fX12_sits_2 N ρ 10 x2) := by
  have z1 := i_1
  have z1000 : (1000 : Int32).toInt = 1000 := rfl
  intro N
  induction N with
  | zero => intro ρ x2 _ _ _; exact pt_none
  | succ N ih =>
    intro ρ x2 h h0 h1
    unfold fX12_sits_2
    refine pt_le (fun _ => pt_ck (fun _ _ _ => pt_nm (fun s e => ?_))) (fun c => pt_ck (fun _ _ _ => pt_nm (fun s e => pt_nm (fun v ev => ?_))))
    · exact kr_37 hI FU s 0 (by rw [e, n10]; exact h.w _ (by omega) (by omega) (by omega) (by omega))
    · have ix := seat_ix (x1 := 10) (by rw [z10]; omega) (by rw [z10]; omega) h0 (x4 := x2) (by omega)
      rw [n10] at ix
      have ev1 : v.toInt = x2.toInt + 1 := by rw [ev, i32_add (by omega) (by omega)]; omega
      exact ih s v (by rw [e]; exact h.w _ (by omega) (by omega) (by omega) (by omega)) (by omega) (by omega)
theorem kr_sits (hI : IvC g τ σ1) {ρ : S2} (h : KR 10 ρ0 ρ) : Pt (fun z : Unit × S2 => KR 10 ρ0 z.2) (fX12_sits ρ 10) := by
  unfold fX12_sits fX12_sits_0
  exact kr_2 hI FU ρ 0 h (by decide) (by decide)
theorem kr_71 (hI : IvC g τ σ1) {x1 : Int32} : ∀ (N : Nat) (ρ : S2) (x4 : Int32), KR 10 ρ0 ρ → 0 ≤ x4.toInt → x4.toInt ≤ 12 → (ρ.1 0 3).toInt ≤ 12 → Pt (fun z : Unit × S2 => KR 10 ρ0 z.2) (fX12_tries_71 N ρ x1 x4) := by
  have z1 := i_1
  have z120 : (120 : Int32).toInt = 120 := rfl
  intro N
  induction N with
  | zero => intro ρ x4 _ _ _ _; exact pt_none
  | succ N ih =>
    intro ρ x4 h h0 h1 h3
    unfold fX12_tries_71
    refine pt_le (fun _ => ?_) (fun c => ?_)
    · refine pt_bs (pt_fr (wfX12_numbers (m := 1) rfl ρ 10 (Fr.rf ρ))) (fun r8 σ9 h9 => pt_bs (P := fun z => NR 10 σ9 z.2) (fun z hz => ?_) (fun r11 σ12 h12 => pt_bs (kr_sits hI (((h.fr h9 rfl).nr h12))) (fun r14 σ15 h15 => pt_some h15)))
      have := nr_reads (t := 10) (σ := σ9) z hz
      rw [n10] at this; exact this
    · have e120 : (120 + x4).toInt = 120 + x4.toInt := by rw [i32_add (by omega) (by omega)]; omega
      have n120 := i32_nat (i := 120 + x4) (by omega)
      have e1 : (x4 + 1).toInt = x4.toInt + 1 := by rw [i32_add (by omega) (by omega)]; omega
      have step : ∀ s0 : Int32, Pt (fun z : Unit × S2 => KR 10 ρ0 z.2) (fX12_tries_120 (fX12_tries_71 N) ρ x1 x4 s0 (120 + x4)) := fun s0 => by
        unfold fX12_tries_120 fX12_tries_162
        refine pt_ck (fun _ _ _ => pt_nm (fun s3 e3 => ?_))
        have h4 : KR 10 ρ0 s3 := by rw [e3]; exact h.w _ (by omega) (by omega) (by omega) (by omega)
        have k3 : s3.1 0 3 = ρ.1 0 3 := by rw [e3, wI_k _ _ _ _ (by decide)]
        have fin : ∀ v6 : Int32, Pt (fun z : Unit × S2 => KR 10 ρ0 z.2) (ck 132 (120 + x4) (nm (ux_wI s3 16 (Int32.toNatClampNeg (120 + x4)) v6) (fun σ1 => nm (x4 + 1) (fun v2 => fX12_tries_71 N σ1 x1 v2)))) := fun v6 => by
          refine pt_ck (fun _ _ _ => pt_nm (fun s5 e5 => pt_nm (fun v2 e2 => ?_)))
          rw [e2]
          exact ih s5 (x4 + 1) (by rw [e5]; exact h4.w _ (by omega) (by omega) (by omega) (by omega)) (by omega) (by omega) (by rw [e5, wI_k _ _ _ _ (by decide), k3]; exact h3)
        refine pt_bi (P := fun _ => True) (fun _ _ => trivial) (fun r4 _ => pt_if (fun _ => pt_ck (fun _ _ _ => pt_nm (fun v6 _ => fin v6))) (fun _ => pt_ck (fun _ _ _ => pt_nm (fun v7 _ => fin v7))))
      refine pt_bi (P := fun _ => True) (fun _ _ => trivial) (fun r17 _ => pt_if (fun _ => pt_bi (P := fun _ => True) (fun _ _ => trivial) (fun r19 _ => step r19)) (fun _ => pt_ck (fun _ _ _ => pt_nm (fun v21 _ => step v21))))
theorem kr_32 (hI : IvC g τ σ1) {x1 : Int32} : ∀ (N : Nat) (ρ : S2) (x4 : Int32), KR 10 ρ0 ρ → 0 ≤ x4.toInt → x4.toInt ≤ 80 → (ρ.1 0 3).toInt ≤ 12 → Pt (fun z : Unit × S2 => KR 10 ρ0 z.2) (fX12_tries_32 N ρ x1 x4) := by
  have z1 := i_1
  have z80 : (80 : Int32).toInt = 80 := rfl
  have z800 : (800 : Int32).toInt = 800 := rfl
  intro N
  induction N with
  | zero => intro ρ x4 _ _ _ _; exact pt_none
  | succ N ih =>
    intro ρ x4 h h0 h1 h3
    unfold fX12_tries_32
    refine pt_le (fun _ => kr_71 hI FU ρ 0 h (by decide) (by decide) h3) (fun c => pt_ck (fun _ _ _ => pt_nm (fun v22 _ => pt_ck (fun _ _ _ => pt_nm (fun s e => pt_nm (fun v ev => ?_))))))
    have e8 : (800 + x4).toInt = 800 + x4.toInt := by rw [i32_add (by omega) (by omega)]; omega
    have n8 := i32_nat (i := 800 + x4) (by omega)
    have ev1 : v.toInt = x4.toInt + 1 := by rw [ev, i32_add (by omega) (by omega)]; omega
    exact ih s v (by rw [e]; exact h.w _ (by omega) (by omega) (by omega) (by omega)) (by omega) (by omega) (by rw [e, wI_k _ _ _ _ (by decide)]; exact h3)
theorem kr_tries (hI : IvC g τ σ1) {ρ : S2} {x1 x2 x3 : Int32} (h : KR 10 ρ0 ρ) (h3 : (ρ.1 0 3).toInt ≤ 12) : Pt (fun z : Unit × S2 => KR 10 ρ0 z.2) (fX12_tries ρ x1 x2 x3) := by
  unfold fX12_tries fX12_tries_0
  refine pt_ck (fun _ _ _ => pt_nm (fun s1 e1 => pt_ck (fun _ _ _ => pt_nm (fun s2 e2 => pt_ck (fun _ _ _ => pt_nm (fun v27 _ => pt_ck (fun _ _ _ => pt_nm (fun s3 e3 => ?_))))))))
  rw [n10] at e1 e2 e3
  refine kr_32 hI FU s3 0 ?_ (by decide) (by decide) ?_
  · rw [e3, e2, e1]
    exact ((h.w _ (by omega) (by omega) (by omega) (by omega)).w _ (by omega) (by omega) (by omega) (by omega)).w _ (by omega) (by omega) (by omega) (by omega)
  · rw [e3, wI_k _ _ _ _ (by decide), e2, wI_k _ _ _ _ (by decide), e1, wI_k _ _ _ _ (by decide)]; exact h3
end TRIES
