/-! acts: both sides begin the same bodies -/
def RT (r : Int32) (σ ρ : S2) : Prop := RA σ ρ ∧ σ.1 35 2 = ρ.1 5 r.toNatClampNeg ∧ σ.1 35 3 = r ∧ σ.1 35 4 = ρ.1 4 r.toNatClampNeg
theorem rt_begin {r x : Int32} {τ : Nat} {σ ρ σ' ρ' : S2} {u u2 : Unit} (hR : RT r σ ρ) (h : fX0_begin τ σ x = some (u, σ')) (h2 : fX12_begins ρ x = some (u2, ρ')) : RT r σ' ρ' := by
  have fc := wfX0_begin (m := 1048576) rfl τ σ x (Fr.rf σ) _ h
  have fm := wfX12_begins (m := 1048576) rfl ρ x (Fr.rf ρ) _ h2
  refine ⟨?_, by rw [(fc 35 2 rfl).1, (fm.at 5 _ 4 rfl rfl)]; exact hR.2.1, by rw [(fc 35 3 rfl).1]; exact hR.2.2.1, by rw [(fc 35 4 rfl).1, (fm.at 4 _ 6 rfl rfl)]; exact hR.2.2.2⟩
  obtain ⟨q1, q2⟩ := hR.1
  unfold fX0_begin fX0_begin_0 fX0_begin_19 at h
  unfold fX12_begins fX12_begins_0 fX12_begins_19 at h2
  rw [q1] at h2
  by_cases c : 24 ≤ σ.1 35 1
  · rw [if_pos c] at h h2
    have h : some ((), ux_wI σ 35 1 (σ.1 35 1 + 1)) = some (u, σ') := h
    have h2 : some ((), ux_wI ρ 0 38 (σ.1 35 1 + 1)) = some (u2, ρ') := h2
    cases h; cases h2
    exact ⟨rfl, fun i => q2 i⟩
  · rw [if_neg c] at h h2
    obtain ⟨_, h⟩ := ckS h
    obtain ⟨_, h2⟩ := ckS h2
    have h : some ((), ux_wI (ux_wI σ 36 (σ.1 35 1).toNatClampNeg x) 35 1 (σ.1 35 1 + 1)) = some (u, σ') := h
    have h2 : some ((), ux_wI (ux_wI ρ 29 (σ.1 35 1).toNatClampNeg x) 0 38 (ρ.1 0 38 + 1)) = some (u2, ρ') := h2
    cases h; cases h2
    refine ⟨?_, fun i => ?_⟩
    · show ρ.1 0 38 + 1 = σ.1 35 1 + 1
      rw [q1]
    · show (if i = (σ.1 35 1).toNatClampNeg then x else ρ.1 29 i) = (if i = (σ.1 35 1).toNatClampNeg then x else σ.1 36 i)
      rw [q2 i]
theorem cN {o : Option (Int32 × S2)} {z : Int32 × S2} (h : o = some z) (e : o = none) : False := by rw [e] at h; cases h
theorem ab_0 {ρ : S2} {k x : Int32} (hk : k ≠ 6) (h : fX12_aboveOf ρ k = some x) : x = 0 := by
  unfold fX12_aboveOf fX12_aboveOf_0 at h
  rw [if_neg hk] at h
  cases h; rfl
theorem rt_finds {r : Int32} {τ : Nat} : ∀ (e d j j' : Nat) (σ ρ σ' ρ' : S2) (k x v w : Int32), RT r σ ρ → GX0_findsFrom τ d j σ k x = some (v, σ') → GX12_findsFrom e j' ρ r k x = some (w, ρ') → v = w ∧ RT r σ' ρ' := by
  intro e
  induction e with
  | zero => intro d j j' σ ρ σ' ρ' k x v w hR h h2; exact (cN h2 rfl).elim
  | succ e ih =>
    intro d j j' σ ρ σ' ρ' k x v w hR h h2
    cases d with
    | zero => exact (cN h rfl).elim
    | succ d =>
      have dn : ∀ k : Int32, GX0_findsFrom τ (d + 1) j σ k x = fX0_findsFrom_0 τ (GX0_findsFrom τ d 0) σ k x := fun k => rfl
      have h2 : fX12_findsFrom_0 (GX12_findsFrom e 0) ρ r k x = some (w, ρ') := h2
      have up : ∀ k9 : Int32, k ≠ 6 → k ≠ 1 → k ≠ 5 → bi (fX12_aboveOf ρ k) (fun r14 => bs (GX12_findsFrom e 0 ρ r r14 x) (fun r16 σ17 => some (r16, σ17))) = some (w, ρ') → v = w ∧ RT r σ' ρ' := fun _ n6 n1 n5 h2 => by
        obtain ⟨r14, e14, h2⟩ := biS h2
        have e14 := ab_0 n6 e14
        subst e14
        obtain ⟨r1, s1, b1, h2⟩ := bsS h2
        cases h2
        refine ih (d + 1) j 0 σ ρ σ' _ 0 x v _ hR ?_ b1
        rw [dn] at h ⊢
        unfold fX0_findsFrom_0 at h ⊢
        rw [if_neg n1, if_neg n5, if_neg n6] at h
        rw [if_neg (by decide), if_neg (by decide), if_neg (by decide)]
        exact h
      have hC : fX0_findsFrom_0 τ (GX0_findsFrom τ d 0) σ k x = some (v, σ') := h
      unfold fX0_findsFrom_0 at hC
      unfold fX12_findsFrom_0 at h2
      by_cases k0 : k = 0
      · subst k0
        rw [if_pos rfl] at h2
        rw [if_neg (by decide), if_neg (by decide), if_neg (by decide)] at hC
        obtain ⟨_, s1, b1, hC⟩ := bsS hC
        obtain ⟨_, s2, b2, h2⟩ := bsS h2
        have hR := rt_begin hR b1 b2
        cases hC; cases h2
        exact ⟨by rw [hR.2.2.1], hR⟩
      rw [if_neg k0] at h2
      by_cases k1 : k = 1
      · subst k1
        rw [if_pos rfl] at h2 hC
        obtain ⟨_, s1, b1, hC⟩ := bsS hC
        obtain ⟨_, s2, b2, h2⟩ := bsS h2
        have hR := rt_begin hR b1 b2
        obtain ⟨v1, s3, b3, hC⟩ := bsS hC
        obtain ⟨v2, s4, b4, h2⟩ := bsS h2
        obtain ⟨ev, hR⟩ := ih _ _ _ _ _ _ _ _ _ _ _ hR b3 b4
        obtain ⟨_, h2⟩ := ckS h2
        have h2 : some (v2 + s4.1 4 r.toNatClampNeg, s4) = some (w, ρ') := h2
        cases hC; cases h2
        exact ⟨by rw [ev, hR.2.2.2], hR⟩
      rw [if_neg k1] at h2 hC
      by_cases k2 : k = 2
      · rw [if_pos k2] at h2
        exact up 0 (by rw [k2]; decide) k1 (by rw [k2]; decide) h2
      rw [if_neg k2] at h2
      by_cases k3 : k = 3
      · rw [if_pos k3] at h2
        exact up 0 (by rw [k3]; decide) k1 (by rw [k3]; decide) h2
      rw [if_neg k3] at h2
      by_cases k4 : k = 4
      · rw [if_pos k4] at h2
        exact up 0 (by rw [k4]; decide) k1 (by rw [k4]; decide) h2
      rw [if_neg k4] at h2
      by_cases k5 : k = 5
      · subst k5
        rw [if_pos rfl] at h2 hC
        obtain ⟨_, s1, b1, hC⟩ := bsS hC
        obtain ⟨_, s2, b2, h2⟩ := bsS h2
        have hR := rt_begin hR b1 b2
        obtain ⟨v1, s3, b3, hC⟩ := bsS hC
        obtain ⟨v2, s4, b4, h2⟩ := bsS h2
        obtain ⟨ev, hR⟩ := ih _ _ _ _ _ _ _ _ _ _ _ hR b3 b4
        cases hC; cases h2
        exact ⟨ev, hR⟩
      rw [if_neg k5] at h2 hC
      by_cases k6 : k = 6
      · subst k6
        rw [if_pos rfl] at h2 hC
        obtain ⟨_, s1, b1, hC⟩ := bsS hC
        obtain ⟨_, s2, b2, h2⟩ := bsS h2
        have hR := rt_begin hR b1 b2
        obtain ⟨v1, s3, b3, hC⟩ := bsS hC
        obtain ⟨v2, s4, b4, h2⟩ := bsS h2
        obtain ⟨ev, hR⟩ := ih _ _ _ _ _ _ _ _ _ _ _ hR b3 b4
        cases hC; cases h2
        exact ⟨by rw [ev], hR⟩
      rw [if_neg k6] at h2
      exact up 0 k6 k1 k5 h2
theorem rt_finds' {r : Int32} {τ : Nat} {σ ρ σ' ρ' : S2} {k x v w : Int32} (hR : RT r σ ρ) (h : fX0_findsFrom τ σ k x = some (v, σ')) (h2 : fX12_findsFrom ρ r k x = some (w, ρ')) : v = w ∧ RT r σ' ρ' := rt_finds 24 24 0 0 σ ρ σ' ρ' k x v w hR h h2
theorem rt_moves {r : Int32} {τ : Nat} : ∀ (e d j j' : Nat) (σ ρ σ' ρ' : S2) (k x v w : Int32), RT r σ ρ → GX0_movesFrom τ d j σ k x = some (v, σ') → GX12_movesFrom e j' ρ r k x = some (w, ρ') → v = w ∧ RT r σ' ρ' := by
  intro e
  induction e with
  | zero => intro d j j' σ ρ σ' ρ' k x v w hR h h2; exact (cN h2 rfl).elim
  | succ e ih =>
    intro d j j' σ ρ σ' ρ' k x v w hR h h2
    cases d with
    | zero => exact (cN h rfl).elim
    | succ d =>
      have dn : ∀ k : Int32, GX0_movesFrom τ (d + 1) j σ k x = fX0_movesFrom_0 τ (GX0_movesFrom τ d 0) σ k x := fun k => rfl
      have h2 : fX12_movesFrom_0 (GX12_movesFrom e 0) ρ r k x = some (w, ρ') := h2
      have hC : fX0_movesFrom_0 τ (GX0_movesFrom τ d 0) σ k x = some (v, σ') := h
      unfold fX0_movesFrom_0 at hC
      unfold fX12_movesFrom_0 at h2
      by_cases k0 : k = 0
      · subst k0
        rw [if_pos rfl] at h2
        rw [if_neg (by decide), if_neg (by decide)] at hC
        obtain ⟨_, s1, b1, hC⟩ := bsS hC
        obtain ⟨_, s2, b2, h2⟩ := bsS h2
        have hR := rt_begin hR b1 b2
        cases hC; cases h2
        exact ⟨by rw [hR.2.2.1], hR⟩
      rw [if_neg k0] at h2
      by_cases k2 : k = 2
      · subst k2
        rw [if_pos rfl] at h2 hC
        obtain ⟨_, s1, b1, hC⟩ := bsS hC
        obtain ⟨_, s2, b2, h2⟩ := bsS h2
        have hR := rt_begin hR b1 b2
        obtain ⟨v1, s3, b3, hC⟩ := bsS hC
        obtain ⟨v2, s4, b4, h2⟩ := bsS h2
        obtain ⟨ev, hR⟩ := ih _ _ _ _ _ _ _ _ _ _ _ hR b3 b4
        cases hC; cases h2
        exact ⟨by rw [ev], hR⟩
      rw [if_neg k2] at h2 hC
      by_cases k5 : k = 5
      · subst k5
        rw [if_pos rfl] at h2 hC
        obtain ⟨_, s1, b1, hC⟩ := bsS hC
        obtain ⟨_, s2, b2, h2⟩ := bsS h2
        have hR := rt_begin hR b1 b2
        obtain ⟨v1, s3, b3, hC⟩ := bsS hC
        obtain ⟨v2, s4, b4, h2⟩ := bsS h2
        obtain ⟨ev, hR⟩ := ih _ _ _ _ _ _ _ _ _ _ _ hR b3 b4
        obtain ⟨_, h2⟩ := ckS h2
        have h2 : bs (fX12_findsFrom s4 r (s4.1 5 r.toNatClampNeg) 2) (fun r20 σ21 => some (v2 - r20, σ21)) = some (w, ρ') := h2
        rw [hR.2.1] at hC
        obtain ⟨v3, s5, b5, hC⟩ := bsS hC
        obtain ⟨v4, s6, b6, h2⟩ := bsS h2
        obtain ⟨ev2, hR⟩ := rt_finds' hR b5 b6
        cases hC; cases h2
        exact ⟨by rw [ev, ev2], hR⟩
      rw [if_neg k5] at h2 hC
      obtain ⟨r14, e14, h2⟩ := biS h2
      by_cases k6 : k = 6
      · subst k6
        unfold fX12_aboveOf fX12_aboveOf_0 at e14
        rw [if_pos rfl] at e14
        cases e14
        obtain ⟨r1, s1, b1, h2⟩ := bsS h2
        cases h2
        refine ih (d + 1) j 0 σ ρ σ' _ 1 x v _ hR ?_ b1
        rw [dn]
        unfold fX0_movesFrom_0
        rw [if_neg (by decide), if_neg (by decide)]
        exact hC
      · have e14 := ab_0 k6 e14
        subst e14
        obtain ⟨r1, s1, b1, h2⟩ := bsS h2
        cases h2
        refine ih (d + 1) j 0 σ ρ σ' _ 0 x v _ hR ?_ b1
        rw [dn]
        unfold fX0_movesFrom_0
        rw [if_neg (by decide), if_neg (by decide)]
        exact hC
theorem rt_moves' {r : Int32} {τ : Nat} {σ ρ σ' ρ' : S2} {k x v w : Int32} (hR : RT r σ ρ) (h : fX0_movesFrom τ σ k x = some (v, σ')) (h2 : fX12_movesFrom ρ r k x = some (w, ρ')) : v = w ∧ RT r σ' ρ' := rt_moves 24 24 0 0 σ ρ σ' ρ' k x v w hR h h2
theorem rt_keeps {r : Int32} {τ : Nat} : ∀ (e d j j' : Nat) (σ ρ σ' ρ' : S2) (k x v w : Int32), RT r σ ρ → GX0_keepsFrom τ d j σ k x = some (v, σ') → GX12_keepsFrom e j' ρ r k x = some (w, ρ') → v = w ∧ RT r σ' ρ' := by
  intro e
  induction e with
  | zero => intro d j j' σ ρ σ' ρ' k x v w hR h h2; exact (cN h2 rfl).elim
  | succ e ih =>
    intro d j j' σ ρ σ' ρ' k x v w hR h h2
    cases d with
    | zero => exact (cN h rfl).elim
    | succ d =>
      have dn : ∀ k : Int32, GX0_keepsFrom τ (d + 1) j σ k x = fX0_keepsFrom_0 τ (GX0_keepsFrom τ d 0) σ k x := fun k => rfl
      have h2 : fX12_keepsFrom_0 (GX12_keepsFrom e 0) ρ r k x = some (w, ρ') := h2
      have hC : fX0_keepsFrom_0 τ (GX0_keepsFrom τ d 0) σ k x = some (v, σ') := h
      unfold fX0_keepsFrom_0 at hC
      unfold fX12_keepsFrom_0 at h2
      by_cases k0 : k = 0
      · subst k0
        rw [if_pos rfl] at h2
        rw [if_neg (by decide), if_neg (by decide)] at hC
        obtain ⟨_, s1, b1, hC⟩ := bsS hC
        obtain ⟨_, s2, b2, h2⟩ := bsS h2
        have hR := rt_begin hR b1 b2
        obtain ⟨_, h2⟩ := ckS h2
        have h2 : bs (fX12_findsFrom s2 r (s2.1 5 r.toNatClampNeg) x) (fun r20 σ21 => some (r20 * 2, σ21)) = some (w, ρ') := h2
        rw [hR.2.1] at hC
        obtain ⟨v3, s5, b5, hC⟩ := bsS hC
        obtain ⟨v4, s6, b6, h2⟩ := bsS h2
        obtain ⟨ev2, hR⟩ := rt_finds' hR b5 b6
        cases hC; cases h2
        exact ⟨by rw [ev2], hR⟩
      rw [if_neg k0] at h2
      by_cases k3 : k = 3
      · subst k3
        rw [if_pos rfl] at h2 hC
        obtain ⟨_, s1, b1, hC⟩ := bsS hC
        obtain ⟨_, s2, b2, h2⟩ := bsS h2
        have hR := rt_begin hR b1 b2
        obtain ⟨v1, s3, b3, hC⟩ := bsS hC
        obtain ⟨v2, s4, b4, h2⟩ := bsS h2
        obtain ⟨ev, hR⟩ := ih _ _ _ _ _ _ _ _ _ _ _ hR b3 b4
        cases hC; cases h2
        exact ⟨by rw [ev], hR⟩
      rw [if_neg k3] at h2 hC
      by_cases k6 : k = 6
      · subst k6
        rw [if_pos rfl] at h2 hC
        obtain ⟨_, s1, b1, hC⟩ := bsS hC
        obtain ⟨_, s2, b2, h2⟩ := bsS h2
        have hR := rt_begin hR b1 b2
        obtain ⟨v1, s3, b3, hC⟩ := bsS hC
        obtain ⟨v2, s4, b4, h2⟩ := bsS h2
        obtain ⟨ev, hR⟩ := ih _ _ _ _ _ _ _ _ _ _ _ hR b3 b4
        obtain ⟨v3, s5, b5, hC⟩ := bsS hC
        obtain ⟨v4, s6, b6, h2⟩ := bsS h2
        obtain ⟨ev2, hR⟩ := rt_moves' hR b5 b6
        cases hC; cases h2
        exact ⟨by rw [ev, ev2], hR⟩
      rw [if_neg k6] at h2 hC
      obtain ⟨r14, e14, h2⟩ := biS h2
      have e14 := ab_0 k6 e14
      subst e14
      obtain ⟨r1, s1, b1, h2⟩ := bsS h2
      cases h2
      refine ih (d + 1) j 0 σ ρ σ' _ 0 x v _ hR ?_ b1
      rw [dn]
      unfold fX0_keepsFrom_0
      rw [if_neg (by decide), if_neg (by decide)]
      exact hC
theorem rt_keeps' {r : Int32} {τ : Nat} {σ ρ σ' ρ' : S2} {k x v w : Int32} (hR : RT r σ ρ) (h : fX0_keepsFrom τ σ k x = some (v, σ')) (h2 : fX12_keepsFrom ρ r k x = some (w, ρ')) : v = w ∧ RT r σ' ρ' := rt_keeps 24 24 0 0 σ ρ σ' ρ' k x v w hR h h2
theorem rt_tells {r : Int32} {τ : Nat} : ∀ (e d j j' : Nat) (σ ρ σ' ρ' : S2) (k x v w : Int32), RT r σ ρ → GX0_tellsFrom τ d j σ k x = some (v, σ') → GX12_tellsFrom e j' ρ r k x = some (w, ρ') → v = w ∧ RT r σ' ρ' := by
  intro e
  induction e with
  | zero => intro d j j' σ ρ σ' ρ' k x v w hR h h2; exact (cN h2 rfl).elim
  | succ e ih =>
    intro d j j' σ ρ σ' ρ' k x v w hR h h2
    cases d with
    | zero => exact (cN h rfl).elim
    | succ d =>
      have dn : ∀ k : Int32, GX0_tellsFrom τ (d + 1) j σ k x = fX0_tellsFrom_0 τ (GX0_tellsFrom τ d 0) σ k x := fun k => rfl
      have h2 : fX12_tellsFrom_0 (GX12_tellsFrom e 0) ρ r k x = some (w, ρ') := h2
      have hC : fX0_tellsFrom_0 τ (GX0_tellsFrom τ d 0) σ k x = some (v, σ') := h
      unfold fX0_tellsFrom_0 at hC
      unfold fX12_tellsFrom_0 at h2
      by_cases k0 : k = 0
      · subst k0
        rw [if_pos rfl] at h2
        rw [if_neg (by decide)] at hC
        obtain ⟨_, s1, b1, hC⟩ := bsS hC
        obtain ⟨_, s2, b2, h2⟩ := bsS h2
        have hR := rt_begin hR b1 b2
        obtain ⟨_, h2⟩ := ckS h2
        have h2 : bs (fX12_keepsFrom s2 r (s2.1 5 r.toNatClampNeg) x) (fun r6 σ7 => ck 12 r (nm (σ7.1 5 (Int32.toNatClampNeg r)) (fun v9 => bs (fX12_movesFrom σ7 r v9 1) (fun r10 σ11 => some (r6 - r10, σ11))))) = some (w, ρ') := h2
        rw [hR.2.1] at hC
        obtain ⟨v1, s3, b3, hC⟩ := bsS hC
        obtain ⟨v2, s4, b4, h2⟩ := bsS h2
        obtain ⟨ev, hR⟩ := rt_keeps' hR b3 b4
        obtain ⟨_, h2⟩ := ckS h2
        have h2 : bs (fX12_movesFrom s4 r (s4.1 5 r.toNatClampNeg) 1) (fun r20 σ21 => some (v2 - r20, σ21)) = some (w, ρ') := h2
        rw [hR.2.1] at hC
        obtain ⟨v3, s5, b5, hC⟩ := bsS hC
        obtain ⟨v4, s6, b6, h2⟩ := bsS h2
        obtain ⟨ev2, hR⟩ := rt_moves' hR b5 b6
        cases hC; cases h2
        exact ⟨by rw [ev, ev2], hR⟩
      rw [if_neg k0] at h2
      by_cases k4 : k = 4
      · subst k4
        rw [if_pos rfl] at h2 hC
        obtain ⟨_, s1, b1, hC⟩ := bsS hC
        obtain ⟨_, s2, b2, h2⟩ := bsS h2
        have hR := rt_begin hR b1 b2
        obtain ⟨v1, s3, b3, hC⟩ := bsS hC
        obtain ⟨v2, s4, b4, h2⟩ := bsS h2
        obtain ⟨ev, hR⟩ := ih _ _ _ _ _ _ _ _ _ _ _ hR b3 b4
        cases hC; cases h2
        exact ⟨by rw [ev], hR⟩
      rw [if_neg k4] at h2 hC
      obtain ⟨r14, e14, h2⟩ := biS h2
      by_cases k6 : k = 6
      · subst k6
        unfold fX12_aboveOf fX12_aboveOf_0 at e14
        rw [if_pos rfl] at e14
        cases e14
        obtain ⟨r1, s1, b1, h2⟩ := bsS h2
        cases h2
        refine ih (d + 1) j 0 σ ρ σ' _ 1 x v _ hR ?_ b1
        rw [dn]
        unfold fX0_tellsFrom_0
        rw [if_neg (by decide)]
        exact hC
      · have e14 := ab_0 k6 e14
        subst e14
        obtain ⟨r1, s1, b1, h2⟩ := bsS h2
        cases h2
        refine ih (d + 1) j 0 σ ρ σ' _ 0 x v _ hR ?_ b1
        rw [dn]
        unfold fX0_tellsFrom_0
        rw [if_neg (by decide)]
        exact hC
theorem rt_tells' {r : Int32} {τ : Nat} {σ ρ σ' ρ' : S2} {k x v w : Int32} (hR : RT r σ ρ) (h : fX0_tellsFrom τ σ k x = some (v, σ')) (h2 : fX12_tellsFrom ρ r k x = some (w, ρ')) : v = w ∧ RT r σ' ρ' := rt_tells 24 24 0 0 σ ρ σ' ρ' k x v w hR h h2
theorem st_act {σ ρ σ' ρ' : S2} {τ : Nat} {a b x r q : Int32} (hR : RelA σ ρ) (hM : IvM 0 ρ) (h : fX11_act τ σ a b x = some (r, σ')) (h2 : fX12_act ρ a b x = some (q, ρ')) : r = q ∧ RelA σ' ρ' := by
  have z0 := i_0
  have z1 := i_1
  have z3 : (3 : Int32).toInt = 3 := rfl
  have fc := wfX11_act (m := 1048577) rfl τ σ a b x (Fr.rf σ) _ h
  have fm := wfX12_act (m := 1048576) rfl ρ a b x (Fr.rf ρ) _ h2
  obtain ⟨hk, hF, hA, hS, hE⟩ := hR
  suffices hs : r = q ∧ RA σ' ρ' from ⟨hs.1, hk.fr fc fm rfl rfl rfl rfl rfl rfl rfl rfl, hF.fr fc fm rfl rfl, hs.2, hS.fr fc fm rfl rfl (by rw [(fc 7 5 rfl).1]; exact Int.le_refl _), hE.fr fc fm rfl rfl⟩
  unfold fX11_act fX11_act_0 at h
  unfold fX12_act fX12_act_0 at h2
  have h : bi (fX2_has τ (ux_wI σ 35 1 0) a) _ = some (r, σ') := h
  have h2 : bi (fX12_isKeeper (ux_wI ρ 0 38 0) a) _ = some (q, ρ') := h2
  have b0 : 0 ≤ (ρ.1 0 3).toInt ∧ (ρ.1 0 3).toInt ≤ 12 := hM.1 0 3
  have hA0 : RA (ux_wI σ 35 1 0) (ux_wI ρ 0 38 0) := ⟨rfl, fun i => hA.2 i⟩
  obtain ⟨r1, e1, h⟩ := biS h
  obtain ⟨r2, e2, h2⟩ := biS h2
  have e1 : (r1.toInt = 0 ∧ ¬ (0 ≤ a.toInt ∧ a.toInt < (σ.1 7 5).toInt)) ∨ (r1.toInt = 1 ∧ 0 ≤ a.toInt ∧ a.toInt < (σ.1 7 5).toInt) := q_has (τ := τ) (σ := ux_wI σ 35 1 0) _ e1
  have e2 : (r2.toInt = 0 ∧ ¬ (0 ≤ a.toInt ∧ a.toInt < (ρ.1 0 3).toInt)) ∨ (r2.toInt = 1 ∧ 0 ≤ a.toInt ∧ a.toInt < (ρ.1 0 3).toInt) := q_keeperB (ρ := ux_wI ρ 0 38 0) b0 _ e2
  rw [hk.1] at e2
  by_cases c1 : r1 = 0
  · have c1' : r1.toInt = 0 := by rw [c1]; rfl
    have c2 : r2 = 0 := Int32.toInt_inj.mp (by rw [z0]; omega)
    rw [if_pos c1] at h
    rw [if_pos c2] at h2
    cases h; cases h2
    exact ⟨rfl, hA0⟩
  · have c1' : r1.toInt ≠ 0 := fun q => c1 (Int32.toInt_inj.mp q)
    have c2 : ¬ r2 = 0 := fun q => by have : r2.toInt = 0 := by rw [q]; rfl
                                      omega
    rw [if_neg c1] at h
    rw [if_neg c2] at h2
    obtain ⟨_, h⟩ := ckS h
    have h : ck 12 a (nm (σ.1 8 a.toNatClampNeg) (fun v5 => bs (fX0_run τ (ux_wI σ 35 1 0) a (σ.1 10 a.toNatClampNeg) v5 b x) (fun r6 σ7 => some (r6, σ7)))) = some (r, σ') := h
    obtain ⟨_, h⟩ := ckS h
    have h : bs (fX0_run τ (ux_wI σ 35 1 0) a (σ.1 10 a.toNatClampNeg) (σ.1 8 a.toNatClampNeg) b x) (fun r6 σ7 => some (r6, σ7)) = some (r, σ') := h
    obtain ⟨r3, s3, h3, h⟩ := bsS h
    cases h
    obtain ⟨r4, e4, h2⟩ := biS h2
    have e4 := q_in _ e4
    unfold fX0_run fX0_run_0 at h3
    have hT : RT a (ux_wI (ux_wI (ux_wI (ux_wI σ 35 1 0) 35 3 a) 35 4 (σ.1 10 a.toNatClampNeg)) 35 2 (σ.1 8 a.toNatClampNeg)) (ux_wI ρ 0 38 0) := ⟨⟨rfl, fun i => hA.2 i⟩, (hk.2.1 _).symm, rfl, (hk.2.2.2.2 _).symm⟩
    generalize hsx : ux_wI (ux_wI (ux_wI (ux_wI σ 35 1 0) 35 3 a) 35 4 (σ.1 10 a.toNatClampNeg)) 35 2 (σ.1 8 a.toNatClampNeg) = sx at hT
    have ex : sx.1 35 2 = ρ.1 5 a.toNatClampNeg := hT.2.1
    have h3 : (if b = 0 then bs (fX0_findsFrom τ sx (sx.1 35 2) x) (fun r5 σ6 => some (r5, σ6)) else if b = 1 then bs (fX0_keepsFrom τ sx (sx.1 35 2) x) (fun r9 σ10 => some (r9, σ10)) else if b = 2 then bs (fX0_movesFrom τ sx (sx.1 35 2) x) (fun r13 σ14 => some (r13, σ14)) else if b = 3 then bs (fX0_tellsFrom τ sx (sx.1 35 2) x) (fun r17 σ18 => some (r17, σ18)) else some (0, sx)) = some (r, σ') := by rw [← hsx]; exact h3
    rw [ex] at h3
    by_cases c4 : r4 = 0
    · have c4' : r4.toInt = 0 := by rw [c4]; rfl
      rw [if_pos c4] at h2
      cases h2
      have nb : ∀ n : Int32, 0 ≤ n.toInt → n.toInt ≤ 3 → ¬ b = n := fun n n0 n3 q => by subst q; omega
      rw [if_neg (nb 0 (by omega) (by omega)), if_neg (nb 1 (by omega) (by omega)), if_neg (nb 2 (by decide) (by decide)), if_neg (nb 3 (by decide) (by decide))] at h3
      cases h3
      exact ⟨rfl, hT.1⟩
    · have c4' : r4.toInt ≠ 0 := fun q => c4 (Int32.toInt_inj.mp q)
      rw [if_neg c4] at h2
      obtain ⟨_, h2⟩ := ckS h2
      have h2 : (if b = 0 then bs (fX12_findsFrom (ux_wI ρ 0 38 0) a (ρ.1 5 a.toNatClampNeg) x) (fun r16 σ17 => some (r16, σ17)) else if b = 1 then bs (fX12_keepsFrom (ux_wI ρ 0 38 0) a (ρ.1 5 a.toNatClampNeg) x) (fun r13 σ14 => some (r13, σ14)) else if b = 2 then bs (fX12_movesFrom (ux_wI ρ 0 38 0) a (ρ.1 5 a.toNatClampNeg) x) (fun r10 σ11 => some (r10, σ11)) else bs (fX12_tellsFrom (ux_wI ρ 0 38 0) a (ρ.1 5 a.toNatClampNeg) x) (fun r7 σ8 => some (r7, σ8))) = some (q, ρ') := h2
      by_cases b0 : b = 0
      · rw [if_pos b0] at h2 h3
        obtain ⟨v1, s5, b5, h3⟩ := bsS h3
        obtain ⟨v2, s6, b6, h2⟩ := bsS h2
        obtain ⟨ev, hR⟩ := rt_finds' hT b5 b6
        cases h3; cases h2
        exact ⟨ev, hR.1⟩
      rw [if_neg b0] at h2 h3
      by_cases b1 : b = 1
      · rw [if_pos b1] at h2 h3
        obtain ⟨v1, s5, b5, h3⟩ := bsS h3
        obtain ⟨v2, s6, b6, h2⟩ := bsS h2
        obtain ⟨ev, hR⟩ := rt_keeps' hT b5 b6
        cases h3; cases h2
        exact ⟨ev, hR.1⟩
      rw [if_neg b1] at h2 h3
      by_cases b2 : b = 2
      · rw [if_pos b2] at h2 h3
        obtain ⟨v1, s5, b5, h3⟩ := bsS h3
        obtain ⟨v2, s6, b6, h2⟩ := bsS h2
        obtain ⟨ev, hR⟩ := rt_moves' hT b5 b6
        cases h3; cases h2
        exact ⟨ev, hR.1⟩
      rw [if_neg b2] at h2 h3
      have b3 : b = 3 := by
        have n0 : b.toInt ≠ 0 := fun q => b0 (Int32.toInt_inj.mp q)
        have n1 : b.toInt ≠ 1 := fun q => b1 (Int32.toInt_inj.mp q)
        have n2 : b.toInt ≠ 2 := fun q => b2 (Int32.toInt_inj.mp q)
        exact Int32.toInt_inj.mp (by rw [z3]; omega)
      rw [if_pos b3] at h3
      obtain ⟨v1, s5, b5, h3⟩ := bsS h3
      obtain ⟨v2, s6, b6, h2⟩ := bsS h2
      obtain ⟨ev, hR⟩ := rt_tells' hT b5 b6
      cases h3; cases h2
      exact ⟨ev, hR.1⟩
theorem an_trace {σ ρ : S2} {τ : Nat} {a r q : Int32} (hR : RelA σ ρ) (h : fX11_trace τ σ a = some r) (h2 : fX12_trace ρ a = some q) : r = q := by
  obtain ⟨hk, hF, ⟨a1, a2⟩, hS, hE⟩ := hR
  unfold fX11_trace fX11_trace_0 at h
  unfold fX12_trace fX12_trace_0 at h2
  rw [a1] at h2
  by_cases c1 : a < 0
  · rw [if_pos c1] at h h2; cases h; cases h2; rfl
  rw [if_neg c1] at h h2
  by_cases c2 : σ.1 35 1 ≤ a
  · rw [if_pos c2] at h h2; cases h; cases h2; rfl
  rw [if_neg c2] at h h2
  by_cases c3 : 24 ≤ a
  · rw [if_pos c3] at h h2; cases h; cases h2; rfl
  rw [if_neg c3] at h h2
  obtain ⟨_, h⟩ := ckS h
  obtain ⟨_, h2⟩ := ckS h2
  have h : some (σ.1 36 a.toNatClampNeg) = some r := h
  have h2 : some (ρ.1 29 a.toNatClampNeg) = some q := h2
  cases h; cases h2
  exact (a2 _).symm
