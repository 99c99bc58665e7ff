/-! harm and order leave the tables that stand alone -/
section HARM
variable {τ g : Nat} {σ1 ρ0 : S2}
noncomputable def KP (ρ0 ρ : S2) : Prop := KR 10 ρ0 ρ ∧ ρ.1 0 3 = ρ0.1 0 3
theorem KP.fr {m : Nat} {ρ ρ' : S2} (h : KP ρ0 ρ) (hf : Fr gM m ρ ρ') (e : m.testBit 9 = false) (e3 : m.testBit 3 = false) : KP ρ0 ρ' := ⟨h.1.fr hf e, (hf.at 0 3 3 rfl e3).trans h.2⟩
theorem KP.w {ρ : S2} (h : KP ρ0 ρ) {k i : Nat} (x : Int32) (hk : k = 0 ∨ 19 ≤ k) (h3 : ¬ (k = 0 ∧ i = 3)) : KP ρ0 (ux_wI ρ k i x) := by
  refine ⟨h.1.w x (by omega) (by omega) (by omega) (by omega), ?_⟩
  by_cases q : k = 0
  · subst q
    rw [wI_i _ _ _ (fun w => h3 ⟨rfl, w.symm⟩)]; exact h.2
  · rw [wI_k _ _ _ _ (fun w => q w.symm)]; exact h.2
theorem kp_tries (hI : IvC g τ σ1) (h12 : (ρ0.1 0 3).toInt ≤ 12) {ρ : S2} {x1 x2 x3 : Int32} (h : KP ρ0 ρ) : Pt (fun z : Unit × S2 => KP ρ0 z.2) (fX12_tries ρ x1 x2 x3) := fun z hz => ⟨kr_tries hI h.1 (by rw [h.2]; exact h12) z hz, by
  have := wfX12_tries (m := 513) rfl ρ x1 x2 x3 (Fr.rf ρ) z hz
  exact (this.at 0 3 3 rfl rfl).trans h.2⟩
theorem kp_52 {Q : Int32 × S2 → Prop} {k21 : S2 → Int32 → Int32 → Int32 → Option (Int32 × S2)} {x1 : Int32} (hk : ∀ (ρ : S2) (x2 x3 : Int32), KP ρ0 ρ → Pt Q (k21 ρ x1 x2 x3)) : ∀ (N : Nat) (ρ : S2) (x2 x3 x4 x5 : Int32), KP ρ0 ρ → Pt Q (fX12_harm_52 k21 N ρ x1 x2 x3 x4 x5) := by
  intro N
  induction N with
  | zero => intro ρ x2 x3 x4 x5 _; exact pt_none
  | succ N ih =>
    intro ρ x2 x3 x4 x5 h
    unfold fX12_harm_52 fX12_harm_84 fX12_harm_100 fX12_harm_121 fX12_harm_129
    have e : ∀ x3 x4 : Int32, KP ρ0 (ux_wI ρ 0 36 x4) := fun x3 x4 => h.w _ (Or.inl rfl) (by decide)
    refine pt_if (fun _ => pt_if (fun _ => pt_nm (fun s es => pt_nm (fun v _ => hk _ _ _ (by rw [es]; exact e x3 _)))) (fun _ => pt_if (fun _ => pt_nm (fun v _ => hk _ _ _ h)) (fun _ => pt_nm (fun s es => pt_nm (fun v _ => hk _ _ _ (by rw [es]; exact e x3 _)))))) (fun _ => pt_bi (P := fun _ => True) (fun _ _ => trivial) (fun r4 _ => ?_))
    refine pt_if (fun _ => pt_if (fun _ => pt_nm (fun v _ => ih _ _ _ _ _ h)) (fun _ => pt_nm (fun v _ => ih _ _ _ _ _ h))) (fun _ => pt_bs (pt_fr (wfX12_shareOf (m := 1) rfl ρ 10 x5 (Fr.rf ρ))) (fun r6 σ7 h7 => ?_))
    have h7 : KP ρ0 σ7 := h.fr h7 rfl rfl
    exact pt_if (fun _ => pt_nm (fun v _ => ih _ _ _ _ _ h7)) (fun _ => pt_nm (fun v _ => ih _ _ _ _ _ h7))
theorem kp_21 (hI : IvC g τ σ1) (h12 : (ρ0.1 0 3).toInt ≤ 12) {x1 : Int32} : ∀ (N : Nat) (ρ : S2) (x2 x3 : Int32), KP ρ0 ρ → Pt (fun z : Int32 × S2 => KP ρ0 z.2) (fX12_harm_21 N ρ x1 x2 x3) := by
  intro N
  induction N with
  | zero => intro ρ x2 x3 _; exact pt_none
  | succ N ih =>
    intro ρ x2 x3 h
    unfold fX12_harm_21
    refine pt_if (fun _ => pt_nm (fun s es => pt_some (by rw [es]; exact h.w _ (Or.inl rfl) (by decide)))) (fun _ => pt_ck (fun _ _ _ => pt_nm (fun v10 _ => pt_ck (fun _ _ _ => pt_nm (fun v11 _ => pt_bs (kp_tries hI h12 h) (fun r12 σ13 h13 => ?_))))))
    exact kp_52 (fun ρ x2 x3 h => ih ρ x2 x3 h) FU σ13 _ _ _ _ h13
theorem kr_harm (hI : IvC g τ σ1) (h12 : (ρ0.1 0 3).toInt ≤ 12) {a : Int32} : Pt (fun z : Int32 × S2 => KR 10 ρ0 z.2) (fX12_harm ρ0 a) := by
  have h0 : KP ρ0 ρ0 := ⟨KR.rf 10 ρ0, rfl⟩
  unfold fX12_harm fX12_harm_0
  exact pt_bi (P := fun _ => True) (fun _ _ => trivial) (fun r15 _ => pt_if (fun _ => pt_some h0.1) (fun _ => pt_if (fun _ => pt_some h0.1) (fun _ => pt_mono (kp_21 hI h12 FU ρ0 _ _ h0) (fun z hz => hz.1))))
theorem kp_166 {Q : Int32 × S2 → Prop} {k126 : S2 → Int32 → Int32 → Int32 → Option (Int32 × S2)} {x1 : Int32} (hk : ∀ (ρ : S2) (x2 x3 : Int32), KP ρ0 ρ → Pt Q (k126 ρ x1 x2 x3)) {x2 : Int32} : ∀ (N : Nat) (ρ : S2) (x5 : Int32), KP ρ0 ρ → Pt Q (fX12_order_166 k126 N ρ x1 x2 x5) := by
  intro N
  induction N with
  | zero => intro ρ x5 _; exact pt_none
  | succ N ih =>
    intro ρ x5 h
    unfold fX12_order_166 fX12_order_195
    refine pt_if (fun _ => pt_bs (pt_fr (wfX12_nextOrder (m := 1) rfl ρ _ (Fr.rf ρ))) (fun r1 σ2 h2 => hk σ2 _ _ (h.fr h2 rfl rfl))) (fun _ => pt_ck (fun _ _ _ => pt_nm (fun v4 _ => pt_ck (fun _ _ _ => pt_nm (fun s es => pt_nm (fun v _ => ih s v (by rw [es]; exact h.w _ (Or.inr (by decide)) (fun w => absurd w.1 (by decide)))))))))
theorem kp_126 {x1 : Int32} : ∀ (N : Nat) (ρ : S2) (x2 x3 : Int32), KP ρ0 ρ → Pt (fun z : Int32 × S2 => KP ρ0 z.2) (fX12_order_126 N ρ x1 x2 x3) := by
  intro N
  induction N with
  | zero => intro ρ x2 x3 _; exact pt_none
  | succ N ih =>
    intro ρ x2 x3 h
    have g : ∀ v : Int32, Pt (fun z : Int32 × S2 => KP ρ0 z.2) (fX12_order_195 (fX12_order_126 N) ρ x1 v) := fun v => by
      unfold fX12_order_195
      exact pt_bs (pt_fr (wfX12_nextOrder (m := 1) rfl ρ _ (Fr.rf ρ))) (fun r1 σ2 h2 => ih σ2 _ _ (h.fr h2 rfl rfl))
    have g2 : ∀ v : Int32, Pt (fun z : Int32 × S2 => KP ρ0 z.2) (fX12_order_152 (fX12_order_126 N) ρ x1 v) := fun v => by
      unfold fX12_order_152
      exact pt_nm (fun s es => kp_166 (fun ρ x2 x3 h => ih ρ x2 x3 h) FU s 0 (by rw [es]; exact h.w _ (Or.inl rfl) (by decide)))
    unfold fX12_order_126
    refine pt_if (fun _ => pt_if (fun _ => pt_nm (fun s es => pt_some (by rw [es]; exact h.w _ (Or.inl rfl) (by decide)))) (fun _ => pt_some h)) (fun _ => pt_bi (P := fun _ => True) (fun _ _ => trivial) (fun r9 _ => ?_))
    exact pt_if (fun _ => g _) (fun _ => pt_if (fun _ => g2 _) (fun _ => pt_if (fun _ => g _) (fun _ => g2 _)))
theorem kp_101 {x1 : Int32} : ∀ (N : Nat) (ρ : S2) (x2 : Int32), KP ρ0 ρ → Pt (fun z : Int32 × S2 => KP ρ0 z.2) (fX12_order_101 N ρ x1 x2) := by
  intro N
  induction N with
  | zero => intro ρ x2 _; exact pt_none
  | succ N ih =>
    intro ρ x2 h
    unfold fX12_order_101
    exact pt_if (fun _ => kp_126 FU ρ _ _ h) (fun _ => pt_ck (fun _ _ _ => pt_nm (fun s es => pt_nm (fun v _ => ih s v (by rw [es]; exact h.w _ (Or.inr (by decide)) (fun w => absurd w.1 (by decide)))))))
theorem kp_57 {Q : Int32 × S2 → Prop} {k19 : S2 → Int32 → Int32 → Option (Int32 × S2)} {x1 x2 : Int32} (hk : ∀ (ρ : S2) (x2 : Int32), KP ρ0 ρ → Pt Q (k19 ρ x1 x2)) : ∀ (N : Nat) (ρ : S2) (x3 : Int32), KP ρ0 ρ → Pt Q (fX12_order_57 k19 N ρ x1 x2 x3) := by
  intro N
  induction N with
  | zero => intro ρ x3 _; exact pt_none
  | succ N ih =>
    intro ρ x3 h
    unfold fX12_order_57 fX12_order_93
    refine pt_if (fun _ => pt_nm (fun v _ => hk ρ v h)) (fun _ => pt_bs (pt_fr (wfX12_chooseName (m := 1) rfl ρ 10 x3 (Fr.rf ρ))) (fun r14 σ15 h15 => pt_bi (P := fun _ => True) (fun _ _ => trivial) (fun r17 _ => pt_ck (fun _ _ _ => pt_nm (fun s es => pt_nm (fun v _ => ih s v ?_))))))
    have h15 : KP ρ0 σ15 := h.fr h15 rfl rfl
    rw [es]; exact h15.w _ (Or.inr (by decide)) (fun w => absurd w.1 (by decide))
theorem kp_19 (hI : IvC g τ σ1) (h12 : (ρ0.1 0 3).toInt ≤ 12) {x1 : Int32} : ∀ (N : Nat) (ρ : S2) (x2 : Int32), KP ρ0 ρ → Pt (fun z : Int32 × S2 => KP ρ0 z.2) (fX12_order_19 N ρ x1 x2) := by
  intro N
  induction N with
  | zero => intro ρ x2 _; exact pt_none
  | succ N ih =>
    intro ρ x2 h
    unfold fX12_order_19 fX12_order_93
    refine pt_if (fun _ => kp_101 FU ρ 0 h) (fun _ => pt_bi (P := fun _ => True) (fun _ _ => trivial) (fun r21 _ => pt_if (fun _ => pt_nm (fun v _ => ih ρ v h)) (fun _ => pt_bi (P := fun _ => True) (fun _ _ => trivial) (fun r23 _ => pt_ck (fun _ _ _ => pt_nm (fun v25 _ => pt_bs (kp_tries hI h12 h) (fun r26 σ27 h27 => ?_)))))))
    exact kp_57 (fun ρ x2 h => ih ρ x2 h) FU σ27 0 h27
theorem kr_order (hI : IvC g τ σ1) (h12 : (ρ0.1 0 3).toInt ≤ 12) {a : Int32} : Pt (fun z : Int32 × S2 => KR 10 ρ0 z.2) (fX12_order ρ0 a) := by
  have h0 : KP ρ0 ρ0 := ⟨KR.rf 10 ρ0, rfl⟩
  unfold fX12_order fX12_order_0
  exact pt_bi (P := fun _ => True) (fun _ _ => trivial) (fun r29 _ => pt_if (fun _ => pt_some h0.1) (fun _ => pt_if (fun _ => pt_some h0.1) (fun _ => pt_mono (kp_19 hI h12 FU ρ0 _ h0) (fun z hz => hz.1))))
end HARM
