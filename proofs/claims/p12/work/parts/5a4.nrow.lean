/-! reads touches its own row alone -/
section NROW
noncomputable def NR (t : Nat) (σ0 σ : S2) : Prop := ∀ k i : Nat, 8 ≤ k → k ≤ 18 → ¬ ((k = 10 ∨ k = 11 ∨ k = 12) ∧ i = t) → σ.1 k i = σ0.1 k i
variable {t : Int32} {σ0 : S2} {k45 : S2 → Int32 → Int32 → Int32 → Option (Int32 × S2)}
theorem NR.w0 {n : Nat} {σ : S2} (h : NR n σ0 σ) (i : Nat) (x : Int32) : NR n σ0 (ux_wI σ 0 i x) := fun k j h8 h18 hj => by
  rw [wI_k _ _ _ _ (show k ≠ 0 by omega)]; exact h k j h8 h18 hj
theorem NR.wr {n : Nat} {σ : S2} (h : NR n σ0 σ) {c : Nat} (hc : c = 10 ∨ c = 11 ∨ c = 12) (x : Int32) : NR n σ0 (ux_wI σ c n x) := fun k j h8 h18 hj => by
  by_cases q : k = c
  · subst q
    rw [wI_i _ _ _ (fun w => hj ⟨hc, w⟩)]; exact h k j h8 h18 hj
  · rw [wI_k _ _ _ _ q]; exact h k j h8 h18 hj
theorem gM_9 {k i : Nat} (h8 : 8 ≤ k) (h18 : k ≤ 18) : gM k i = 9 := by
  have : k = 8 ∨ k = 9 ∨ k = 10 ∨ k = 11 ∨ k = 12 ∨ k = 13 ∨ k = 14 ∨ k = 15 ∨ k = 16 ∨ k = 17 ∨ k = 18 := by omega
  rcases this with rfl | rfl | rfl | rfl | rfl | rfl | rfl | rfl | rfl | rfl | rfl <;> rfl
theorem NR.fr {n : Nat} {σ σ' : S2} {m : Nat} (h : NR n σ0 σ) (hf : Fr gM m σ σ') (e : m.testBit 9 = false) : NR n σ0 σ' := fun k j h8 h18 hj => by
  rw [(hf k j (by rw [gM_9 h8 h18]; exact e)).1]; exact h k j h8 h18 hj
theorem nr_275 (hk : ∀ (σ : S2) (x2 x3 : Int32), NR t.toNatClampNeg σ0 σ → Pt (fun z : Int32 × S2 => NR t.toNatClampNeg σ0 z.2) (k45 σ t x2 x3)) {σ : S2} {x2 : Int32} (h : NR t.toNatClampNeg σ0 σ) : Pt (fun z : Int32 × S2 => NR t.toNatClampNeg σ0 z.2) (fX12_reads_275 k45 σ t x2) := by
  have g : ∀ s0 : Int32, Pt (fun z : Int32 × S2 => NR t.toNatClampNeg σ0 z.2) (fX12_reads_296 k45 σ t x2 s0) := fun s0 => by
    unfold fX12_reads_296 fX12_reads_311
    exact pt_if (fun _ => pt_nm (fun v e => hk _ _ _ (by rw [e]; exact h.w0 _ _))) (fun _ => pt_nm (fun v e => hk _ _ _ (by rw [e]; exact h.w0 _ _)))
  unfold fX12_reads_275 fX12_reads_295
  exact pt_if (fun _ => pt_bi (P := fun _ => True) (fun _ _ => trivial) (fun r2 _ => pt_if (fun _ => g 1) (fun _ => g 0))) (fun _ => g 0)
theorem nr_274 (hk : ∀ (σ : S2) (x2 x3 : Int32), NR t.toNatClampNeg σ0 σ → Pt (fun z : Int32 × S2 => NR t.toNatClampNeg σ0 z.2) (k45 σ t x2 x3)) {σ : S2} {x2 s0 : Int32} (h : NR t.toNatClampNeg σ0 σ) : Pt (fun z : Int32 × S2 => NR t.toNatClampNeg σ0 z.2) (fX12_reads_274 k45 σ t x2 s0 t) := by
  unfold fX12_reads_274
  exact pt_ck (fun _ _ _ => pt_nm (fun v e => nr_275 hk (by rw [e]; exact h.wr (by decide) _)))
theorem nr_251 (hk : ∀ (σ : S2) (x2 x3 : Int32), NR t.toNatClampNeg σ0 σ → Pt (fun z : Int32 × S2 => NR t.toNatClampNeg σ0 z.2) (k45 σ t x2 x3)) {σ : S2} {x2 x5 x6 s0 : Int32} (h : NR t.toNatClampNeg σ0 σ) : Pt (fun z : Int32 × S2 => NR t.toNatClampNeg σ0 z.2) (fX12_reads_251 k45 σ t x2 x5 x6 s0 t) := by
  unfold fX12_reads_251
  exact pt_ck (fun _ _ _ => pt_nm (fun v e => pt_if (fun _ => nr_274 hk (by rw [e]; exact h.wr (by decide) _)) (fun _ => pt_ck (fun _ _ _ => pt_nm (fun v6 _ => nr_274 hk (by rw [e]; exact h.wr (by decide) _))))))
theorem nr_162 (hk : ∀ (σ : S2) (x2 x3 : Int32), NR t.toNatClampNeg σ0 σ → Pt (fun z : Int32 × S2 => NR t.toNatClampNeg σ0 z.2) (k45 σ t x2 x3)) {σ : S2} {x2 s0 : Int32} (h : NR t.toNatClampNeg σ0 σ) : Pt (fun z : Int32 × S2 => NR t.toNatClampNeg σ0 z.2) (fX12_reads_162 k45 σ t x2 s0) := by
  have g6 : ∀ (σ : S2) (s0 s1 : Int32), NR t.toNatClampNeg σ0 σ → Pt (fun z : Int32 × S2 => NR t.toNatClampNeg σ0 z.2) (fX12_reads_206 k45 σ t x2 s0 s1) := fun σ s0 s1 h => by
    unfold fX12_reads_206
    exact pt_nm (fun v e => nr_275 hk (by rw [e]; exact h.w0 _ _))
  have g8 : ∀ (σ : S2) (s0 : Int32), NR t.toNatClampNeg σ0 σ → Pt (fun z : Int32 × S2 => NR t.toNatClampNeg σ0 z.2) (fX12_reads_188 k45 σ t x2 s0 t) := fun σ s0 h => by
    unfold fX12_reads_188
    exact pt_ck (fun _ _ _ => pt_nm (fun v e => pt_if (fun _ => g6 v _ _ (by rw [e]; exact h.wr (by decide) _)) (fun _ => g6 v _ _ (by rw [e]; exact h.wr (by decide) _))))
  unfold fX12_reads_162
  refine pt_zf (pt_nm (fun v e => ?_))
  have hv : NR t.toNatClampNeg σ0 v := by rw [e]; exact h.w0 _ _
  exact pt_if (fun _ => pt_bi (P := fun _ => True) (fun _ _ => trivial) (fun r11 _ => g8 v _ hv)) (fun _ => g8 v _ hv)
theorem nr_109 (hk : ∀ (σ : S2) (x2 x3 : Int32), NR t.toNatClampNeg σ0 σ → Pt (fun z : Int32 × S2 => NR t.toNatClampNeg σ0 z.2) (k45 σ t x2 x3)) {σ : S2} {x2 x4 x5 s0 : Int32} (h : NR t.toNatClampNeg σ0 σ) : Pt (fun z : Int32 × S2 => NR t.toNatClampNeg σ0 z.2) (fX12_reads_109 k45 σ t x2 x4 x5 s0) := by
  unfold fX12_reads_109 fX12_reads_157
  refine pt_zf (pt_nm (fun v e => pt_nm (fun v15 _ => ?_)))
  have hv : NR t.toNatClampNeg σ0 v := by rw [e]; exact h.w0 _ _
  refine pt_bs (pt_fr (wfX12_eats (m := 1) rfl v x4 (Fr.rf v))) (fun r16 σ17 h17 => pt_bs (pt_fr (wfX12_eats (m := 1) rfl σ17 32 (Fr.rf σ17))) (fun r19 σ20 h20 => ?_))
  have h2 : NR t.toNatClampNeg σ0 σ20 := (hv.fr h17 rfl).fr h20 rfl
  refine pt_if (fun _ => pt_if (fun _ => pt_bi (P := fun _ => True) (fun _ _ => trivial) (fun r28 _ => pt_bi (P := fun _ => True) (fun _ _ => trivial) (fun r30 _ => pt_if (fun _ => nr_162 hk h2) (fun _ => nr_162 hk h2)))) (fun _ => nr_162 hk h2)) (fun _ => pt_if (fun _ => ?_) (fun _ => nr_275 hk h2))
  refine pt_bs (pt_fr (wfX12_sum (m := 1) rfl σ20 (Fr.rf σ20))) (fun r22 σ23 h23 => pt_bi (P := fun _ => True) (fun _ _ => trivial) (fun r25 _ => ?_))
  have h3 : NR t.toNatClampNeg σ0 σ23 := h2.fr h23 rfl
  exact pt_if (fun _ => nr_251 hk h3) (fun _ => pt_ck (fun _ _ _ => pt_nm (fun v27 _ => nr_251 hk h3)))
theorem nr_45 : ∀ (N : Nat) (σ : S2) (x2 x3 : Int32), NR t.toNatClampNeg σ0 σ → Pt (fun z : Int32 × S2 => NR t.toNatClampNeg σ0 z.2) (fX12_reads_45 N σ t x2 x3) := by
  intro N
  induction N with
  | zero => intro σ x2 x3 _; exact pt_none
  | succ N ih =>
    intro σ x2 x3 h
    have g : ∀ x4 s0 : Int32, Pt (fun z : Int32 × S2 => NR t.toNatClampNeg σ0 z.2) (fX12_reads_89 (fX12_reads_45 N) σ t x2 x4 s0) := fun x4 s0 => by
      unfold fX12_reads_89 fX12_reads_104
      exact pt_if (fun _ => nr_109 ih h) (fun _ => pt_if (fun _ => nr_109 ih h) (fun _ => nr_109 ih h))
    unfold fX12_reads_45 fX12_reads_338
    refine pt_if (fun _ => pt_if (fun _ => pt_ck (fun _ _ _ => pt_nm (fun v _ => pt_if (fun _ => pt_some h) (fun _ => pt_some h)))) (fun _ => pt_some h)) (fun _ => pt_bi (P := fun _ => True) (fun _ _ => trivial) (fun r33 _ => ?_))
    exact pt_if (fun _ => g _ _) (fun _ => pt_if (fun _ => g _ _) (fun _ => pt_if (fun _ => g _ _) (fun _ => g _ _)))
theorem nr_reads {σ : S2} : Pt (fun z : Int32 × S2 => NR t.toNatClampNeg σ z.2) (fX12_reads σ t) := by
  unfold fX12_reads fX12_reads_0
  refine pt_nm (fun s1 e1 => pt_nm (fun s2 e2 => pt_nm (fun s3 e3 => pt_nm (fun s4 e4 => pt_ck (fun _ _ _ => pt_nm (fun s5 e5 => pt_ck (fun _ _ _ => pt_nm (fun s6 e6 => pt_ck (fun _ _ _ => pt_nm (fun s7 e7 => ?_))))))))))
  have h0 : NR t.toNatClampNeg σ σ := fun _ _ _ _ _ => rfl
  exact nr_45 FU s7 0 1 (by rw [e7, e6, e5, e4, e3, e2, e1]; exact ((((((h0.w0 _ _).w0 _ _).w0 _ _).w0 _ _).wr (by decide) _).wr (by decide) _).wr (by decide) _)
end NROW
