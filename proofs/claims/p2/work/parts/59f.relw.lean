/-! the whole text: a fault on both sides, or none and the same copies, streets and way -/
def CV (x4 came : Int32) : Prop := (x4 = 0 ∧ came = 0) ∨ (x4 = 1 ∧ (came = 1 ∨ came = 2 ∨ came = 4)) ∨ (x4 = 2 ∧ (came = 3 ∨ came = 5 ∨ came = 6))
theorem CV.next {x4 came r : Int32} (h : CV x4 came) (hr : r = 1 ∨ r = 2 ∨ r = 4) (hx : came &&& r = 0) : (x4 + 1 = 3 ∧ came ||| r = 7) ∨ (x4 + 1 ≠ 3 ∧ ¬ (3 : Int32) ≤ x4 + 1 ∧ CV (x4 + 1) (came ||| r)) := by
  rcases h with ⟨rfl, rfl⟩ | ⟨rfl, rfl | rfl | rfl⟩ | ⟨rfl, rfl | rfl | rfl⟩ <;> rcases hr with rfl | rfl | rfl <;> first
    | exact absurd hx (by decide)
    | exact Or.inl (by decide)
    | exact Or.inr ⟨by decide, by decide, Or.inr (Or.inl (by decide))⟩
    | exact Or.inr ⟨by decide, by decide, Or.inr (Or.inr (by decide))⟩
theorem CV.lt {x4 came : Int32} (h : CV x4 came) : ¬ (3 : Int32) ≤ x4 := by
  rcases h with ⟨rfl, _⟩ | ⟨rfl, _⟩ | ⟨rfl, _⟩ <;> decide
section WORK
variable {τ : Nat} {t : Int32}
/-- a third part behind a third: whatever comes, the reference is faulty -/
theorem full_f {M : Nat} {ρ ρ' : S2} {q : Int32} (h : fX12_reads_45 M ρ t 7 1 = some (q, ρ')) : q = ρ'.1 0 45 := by
  cases M with
  | zero => cases h
  | succ M =>
    unfold fX12_reads_45 at h
    rw [if_neg (by decide)] at h
    obtain ⟨c, f, h⟩ := biS h
    unfold fX12_reads_89 at h
    by_cases c1 : c = 99
    · rw [if_pos c1, if_neg (by decide), if_neg (by decide)] at h
      exact bad_part h
    rw [if_neg c1] at h
    by_cases c2 : c = 115
    · rw [if_pos c2, if_neg (by decide), if_neg (by decide)] at h
      exact bad_part h
    rw [if_neg c2] at h
    by_cases c3 : c = 112
    · rw [if_pos c3, if_neg (by decide), if_neg (by decide)] at h
      exact bad_part h
    rw [if_neg c3, if_pos rfl] at h
    exact bad_part h
/-- the end of the text in the reference -/
theorem ref_end {M : Nat} {ρ ρ' : S2} {v q : Int32} (h47 : ρ.1 0 47 = 0) (h : fX12_reads_295 (fX12_reads_45 M) ρ t v = some (q, ρ')) : (ρ.1 0 45 = ρ.1 13 t.toNatClampNeg ∧ q = -1 ∧ ∀ k i : Nat, k ≠ 0 → ρ'.1 k i = ρ.1 k i) ∨ (ρ.1 0 45 ≠ ρ.1 13 t.toNatClampNeg ∧ q = ρ'.1 0 45) := by
  unfold fX12_reads_295 fX12_reads_296 at h
  rw [if_pos rfl] at h
  unfold fX12_reads_311 at h
  have h : fX12_reads_45 M (ux_wI ρ 0 45 (ρ.1 0 45 + 0)) t v 0 = some (q, ρ') := h
  rw [Int32.add_zero] at h
  cases M with
  | zero => cases h
  | succ M =>
    unfold fX12_reads_45 fX12_reads_338 at h
    rw [if_pos rfl] at h
    have k : (ux_wI ρ 0 45 (ρ.1 0 45)).1 0 47 = 0 := h47
    rw [if_pos k] at h
    obtain ⟨_, h⟩ := ckS h
    have h : (if ρ.1 0 45 = ρ.1 13 t.toNatClampNeg then some ((-1 : Int32), ux_wI ρ 0 45 (ρ.1 0 45)) else some ((ux_wI ρ 0 45 (ρ.1 0 45)).1 0 45, ux_wI ρ 0 45 (ρ.1 0 45))) = some (q, ρ') := h
    by_cases c : ρ.1 0 45 = ρ.1 13 t.toNatClampNeg
    · rw [if_pos c] at h
      cases h
      refine Or.inl ⟨c, rfl, fun k i hk => ?_⟩
      show (if k = 0 then _ else ρ.1 k) i = _
      rw [if_neg hk]
    · rw [if_neg c] at h
      cases h
      exact Or.inr ⟨c, rfl⟩
theorem work_lp : ∀ (N M : Nat) (σ ρ σ' ρ' : S2) (came x4 r q : Int32), PB t σ ρ → PN 0 σ ρ → PC t σ ρ → CV x4 came → fX3_workOut_52 τ N σ came x4 = some (r, σ') → fX12_reads_45 M ρ t came 1 = some (q, ρ') → (r = -1 ∧ q = -1 ∧ PC t σ' ρ') ∨ (r ≠ -1 ∧ q = ρ'.1 0 45) := by
  have z1 := i_1
  intro N
  induction N with
  | zero => intro M σ ρ σ' ρ' came x4 r q _ _ _ _ h; cases h
  | succ N ih =>
    intro M σ ρ σ' ρ' came x4 r q hB hN hC hV h h2
    cases M with
    | zero => cases h2
    | succ M =>
      unfold fX3_workOut_52 at h
      unfold fX12_reads_45 at h2
      rw [if_neg hV.lt, if_pos hN.1] at h
      rw [if_neg (by decide)] at h2
      obtain ⟨r3, σ4, h3, h⟩ := bsS h
      have h : (if σ4.1 13 3 = -1 then if σ4.1 13 2 < σ4.1 13 1 then bi (fX3_sign τ σ4) (fun r7 => if r7 = 59 then if 3 ≤ x4 + 1 then fX3_workOut_127 τ (fX3_workOut_52 τ N) σ4 (came ||| r3) x4 else nm (ux_wI σ4 13 2 (σ4.1 13 2 + 1)) (fun σ9 => fX3_workOut_135 τ (fX3_workOut_52 τ N) σ9 (came ||| r3) x4) else fX3_workOut_127 τ (fX3_workOut_52 τ N) σ4 (came ||| r3) x4) else fX3_workOut_141 τ σ4 else fX3_workOut_141 τ σ4) = some (r, σ') := h
      obtain ⟨c2, f2, h2⟩ := biS h2
      -- behind a fault of the class the answer is that fault
      have cF : σ4.1 13 3 ≠ -1 → r ≠ -1 := fun w => by
        rw [if_neg w] at h
        unfold fX3_workOut_141 at h
        cases h; exact w
      have c127 : ∀ v : Int32, 0 ≤ (σ4.1 13 2).toInt → fX3_workOut_127 τ (fX3_workOut_52 τ N) σ4 v x4 = some (r, σ') → r ≠ -1 := fun v w g => by
        unfold fX3_workOut_127 fX3_workOut_135 at g
        have g : fX3_workOut_52 τ N (ux_wI σ4 13 3 (σ4.1 13 2)) v (x4 + 1) = some (r, σ') := g
        have nf : ¬ σ4.1 13 2 = -1 := fun e => by rw [e, i_m1] at w; omega
        cases N with
        | zero => cases g
        | succ N =>
          unfold fX3_workOut_52 fX3_workOut_141 at g
          have k : ¬ (ux_wI σ4 13 3 (σ4.1 13 2)).1 13 3 = -1 := nf
          by_cases c : 3 ≤ x4 + 1
          · rw [if_pos c] at g; cases g; exact nf
          · rw [if_neg c, if_neg k] at g; cases g; exact nf
      -- behind a part that both sides read
      have after : ∀ (ρ4 : S2) (v : Int32), fX12_reads_275 (fX12_reads_45 M) ρ4 t v = some (q, ρ') → PO t came (σ.1 13 2).toInt r3 v σ4 ρ4 → (r = -1 ∧ q = -1 ∧ PC t σ' ρ') ∨ (r ≠ -1 ∧ q = ρ'.1 0 45) := fun ρ4 v g hO => by
        obtain ⟨hB4, ⟨hN4, hC4, ev, ea, hr3, hx⟩ | hF⟩ := hO
        · subst ev
          rw [if_pos hN4.1] at h
          unfold fX12_reads_275 at g
          rw [if_pos hN4.2.1] at g
          obtain ⟨s2, f4, g⟩ := biS g
          by_cases c : σ4.1 13 2 < σ4.1 13 1
          · rw [if_pos c] at h
            have c := Int32.lt_iff_toInt_lt.mp c
            obtain ⟨s1, f3, h⟩ := biS h
            obtain ⟨es, lt⟩ := sign_eq hB4 hN4 f3 f4
            subst es
            by_cases c5 : s1 = 59
            · rw [if_pos c5] at h g
              unfold fX12_reads_296 at g
              rw [if_neg (by decide)] at g
              unfold fX12_reads_311 at g
              have g : fX12_reads_45 M (ux_wI ρ4 0 45 (ρ4.1 0 45 + 1)) t (came ||| r3) 1 = some (q, ρ') := g
              rcases hV.next hr3 hx with ⟨e3, e7⟩ | ⟨n3, n3', hV'⟩
              · rw [e7] at g
                rw [if_pos (by rw [e3]; decide)] at h
                exact Or.inr ⟨c127 _ hN4.2.2.2.2.1 h, full_f g⟩
              · rw [if_neg n3'] at h
                have h : fX3_workOut_52 τ N (ux_wI σ4 13 2 (σ4.1 13 2 + 1)) (came ||| r3) (x4 + 1) = some (r, σ') := h
                obtain ⟨hN5, _⟩ := hN4.step hB4 c
                exact ih M (ux_wI σ4 13 2 (σ4.1 13 2 + 1)) (ux_wI ρ4 0 45 (ρ4.1 0 45 + 1)) σ' ρ' _ _ r q hB4 hN5 hC4 hV' h g
            · rw [if_neg c5] at h g
              rcases ref_end hN4.2.1 g with ⟨e1, _⟩ | ⟨_, e2⟩
              · exfalso
                rw [hN4.2.2.1, hB4.2.2.2.1] at e1
                rw [e1] at c; omega
              · exact Or.inr ⟨c127 _ hN4.2.2.2.2.1 h, e2⟩
          · rw [if_neg c] at h
            have c' : ¬ (σ4.1 13 2).toInt < (σ4.1 13 1).toInt := fun w => c (Int32.lt_iff_toInt_lt.mpr w)
            unfold fX3_workOut_141 at h
            have e59 : s2 ≠ 59 := fun w => by
              have hs : fX3_sign τ σ4 = some (-1) := by
                unfold fX3_sign fX3_sign_0
                rw [if_neg (fun w => by have := Int32.lt_iff_toInt_lt.mp w; have := hN4.2.2.2.2.1; rw [i_0] at *; omega), if_pos (Int32.le_iff_toInt_le.mpr (by omega))]
              have := (sign_eq hB4 hN4 hs f4).1
              rw [w] at this; exact absurd this (by decide)
            rw [if_neg e59] at g
            have ee : σ4.1 13 2 = σ4.1 13 1 := Int32.toInt_inj.mp (by have := hN4.2.2.2.2.2; omega)
            cases h
            rcases ref_end hN4.2.1 g with ⟨_, e2, e3⟩ | ⟨e1, _⟩
            · refine Or.inl ⟨hN4.1, e2, ?_, ?_, ?_⟩
              · rw [e3 10 _ (by decide)]; exact hC4.1
              · rw [e3 11 _ (by decide)]; exact hC4.2.1
              · rw [e3 12 _ (by decide)]; exact hC4.2.2
            · exfalso
              rw [hN4.2.2.1, hB4.2.2.2.1] at e1
              exact e1 ee
        · exact Or.inr ⟨cF hF.1, ref_f hF.2 g⟩
      -- a part that can't stand there
      have bad : ∀ s : Int32, fX3_readPart_50 τ σ = some (r3, σ4) → fX12_reads_104 (fX12_reads_45 M) ρ t came c2 s = some (q, ρ') → (r = -1 ∧ q = -1 ∧ PC t σ' ρ') ∨ (r ≠ -1 ∧ q = ρ'.1 0 45) := fun s g1 g2 => by
        unfold fX3_readPart_50 at g1
        have g1 : some ((0 : Int32), ux_wI σ 13 3 (σ.1 13 2)) = some (r3, σ4) := g1
        have nf : (ux_wI σ 13 3 (σ.1 13 2)).1 13 3 ≠ -1 := fun e => by
          have e : σ.1 13 2 = -1 := e
          have := hN.2.2.2.2.1
          rw [e, i_m1] at this; omega
        cases g1
        exact Or.inr ⟨cF nf, bad_part g2⟩
      unfold fX3_readPart fX3_readPart_0 at h3
      obtain ⟨c1, f1, h3⟩ := biS h3
      obtain ⟨es, lt⟩ := sign_eq hB hN f1 f2
      subst es
      have one : ∀ s : Int32, ((s = 1 ∧ c1 = 99) ∨ (s = 2 ∧ c1 = 115) ∨ (s = 4 ∧ c1 = 112)) → fX3_readPart_36 τ σ came c1 s = some (r3, σ4) → fX12_reads_89 (fX12_reads_45 M) ρ t came c1 s = some (q, ρ') → (r = -1 ∧ q = -1 ∧ PC t σ' ρ') ∨ (r ≠ -1 ∧ q = ρ'.1 0 45) := fun s hs g1 g2 => by
        have s0 : s ≠ 0 := by rcases hs with w | w | w <;> (rw [w.1]; decide)
        unfold fX12_reads_89 at g2
        rw [if_neg s0] at g2
        by_cases hx : came &&& s = 0
        · rw [if_pos hx] at g2
          obtain ⟨ρ4, v, g3, hO⟩ := part_eq hB hN hC f2 lt hs hx g1 g2
          exact after ρ4 v g3 hO
        · rw [if_neg hx] at g2
          unfold fX3_readPart_36 at g1
          rw [if_neg s0, if_neg hx] at g1
          exact bad s g1 g2
      by_cases k1 : c1 = 99
      · rw [if_pos k1] at h3 h2
        exact one 1 (Or.inl ⟨rfl, k1⟩) h3 h2
      rw [if_neg k1] at h3 h2
      by_cases k2 : c1 = 115
      · rw [if_pos k2] at h3 h2
        exact one 2 (Or.inr (Or.inl ⟨rfl, k2⟩)) h3 h2
      rw [if_neg k2] at h3 h2
      by_cases k3 : c1 = 112
      · rw [if_pos k3] at h3 h2
        exact one 4 (Or.inr (Or.inr ⟨rfl, k3⟩)) h3 h2
      rw [if_neg k3] at h3 h2
      unfold fX3_readPart_36 at h3
      rw [if_pos rfl] at h3
      unfold fX12_reads_89 at h2
      rw [if_pos rfl] at h2
      exact bad 0 h3 h2
end WORK
