/-! names: find, add, name, number -/
/-- the least n below cnt with M, or -1 -/
def LeastN (cnt : Int) (M : Nat → Prop) (r : Int32) : Prop := (r.toInt = -1 ∧ ∀ n : Nat, (n : Int) < cnt → ¬ M n) ∨ (0 ≤ r.toInt ∧ r.toInt < cnt ∧ M r.toInt.toNat ∧ ∀ n : Nat, (n : Int) < r.toInt → ¬ M n)
theorem LeastN.uniq {cnt : Int} {M M' : Nat → Prop} {r q : Int32} (h : LeastN cnt M r) (h2 : LeastN cnt M' q) (e : ∀ n : Nat, (n : Int) < cnt → (M n ↔ M' n)) : r = q := by
  rcases h with ⟨a, b⟩ | ⟨a, b, c, d⟩ <;> rcases h2 with ⟨a', b'⟩ | ⟨a', b', c', d'⟩
  · exact Int32.toInt_inj.mp (a.trans a'.symm)
  · exact absurd ((e _ (by omega)).mpr c') (b _ (by omega))
  · exact absurd ((e _ (by omega)).mp c) (b' _ (by omega))
  · refine Int32.toInt_inj.mp ?_
    by_cases k : r.toInt < q.toInt
    · exact absurd ((e _ (by omega)).mp c) (d' _ (by omega))
    · by_cases k2 : q.toInt < r.toInt
      · exact absurd ((e _ (by omega)).mpr c') (d _ (by omega))
      · omega
/-- name n's bytes are those of the text in cell c from place 0 on, len of them -/
def NmC (σ : S2) (c : Nat) (len : Int32) (n : Nat) : Prop := σ.1 5 n = len ∧ ∀ k : Nat, (k : Int) < len.toInt → σ.1 (44 + n) k = σ.1 c k
def NmM (ρ : S2) (len : Int32) (n : Nat) : Prop := ρ.1 1 n = len ∧ ∀ k : Nat, (k : Int) < len.toInt → ρ.1 2 (6 * n + k) = ρ.1 34 k
section NAMES
variable {σ ρ : S2} {τ : Nat}
theorem c_alike {c0 n0 c1 n1 : Nat} {x3 : Int32} (h6 : x3.toInt ≤ 6) : ∀ (N : Nat) (x4 : Int32), 0 ≤ x4.toInt → x4.toInt ≤ 6 → (∀ k : Nat, (k : Int) < x4.toInt → σ.1 c0 k = σ.1 c1 k) → Pt (fun r => (r.toInt = 1 ∧ ∀ k : Nat, (k : Int) < x3.toInt → σ.1 c0 k = σ.1 c1 k) ∨ (r.toInt = 0 ∧ ¬ ∀ k : Nat, (k : Int) < x3.toInt → σ.1 c0 k = σ.1 c1 k)) (fX4_isAlike_3 τ c0 n0 c1 n1 N σ 0 x3 x4) := by
  have z1 := i_1
  intro N
  induction N with
  | zero => intro x4 _ _ _; exact pt_none
  | succ N ih =>
    intro x4 h0 hx hs
    have zx : (0 : Int32) + x4 = x4 := Int32.zero_add x4
    have nx := i32_nat h0
    unfold fX4_isAlike_3
    rw [zx]
    refine pt_le (fun h => pt_some (Or.inl ⟨rfl, fun k hk => hs k (by omega)⟩)) (fun h => ?_)
    refine pt_ck (fun _ _ _ => pt_nm (fun v e => pt_ck (fun _ _ _ => pt_nm (fun v2 e2 => ?_))))
    subst e; subst e2
    refine pt_if (fun c => pt_nm (fun v e => ?_)) (fun c => pt_some (Or.inr ⟨rfl, fun w => c (w _ (by omega))⟩))
    have e4 : v.toInt = x4.toInt + 1 := by rw [e, i32_add (by omega) (by omega)]; omega
    refine ih v (by omega) (by omega) (fun k hk => ?_)
    by_cases q : (k : Int) < x4.toInt
    · exact hs k q
    · rw [show k = x4.toNatClampNeg by omega]; exact c
theorem c_find {c1 n1 : Nat} {x3 : Int32} (hI : IvC 0 τ σ) (h6 : x3.toInt ≤ 6) : ∀ (N : Nat) (x4 : Int32), 0 ≤ x4.toInt → x4.toInt ≤ 40 → (∀ n : Nat, (n : Int) < x4.toInt → ¬ NmC σ c1 x3 n) → Pt (LeastN (σ.1 3 3).toInt (NmC σ c1 x3)) (fX4_find_3 τ c1 n1 N σ 0 x3 x4) := by
  have z1 := i_1
  have y1 := i_m1
  have b3 : 0 ≤ (σ.1 3 3).toInt ∧ (σ.1 3 3).toInt ≤ 40 := hI.1 3 3
  intro N
  induction N with
  | zero => intro x4 _ _ _; exact pt_none
  | succ N ih =>
    intro x4 h0 hx hs
    have nx := i32_nat h0
    unfold fX4_find_3
    refine pt_le (fun h => pt_some (Or.inl ⟨y1, fun n hn => hs n (by omega)⟩)) (fun h => ?_)
    have e4 : (x4 + 1).toInt = x4.toInt + 1 := by rw [i32_add (by omega) (by omega)]; omega
    have next : ¬ NmC σ c1 x3 x4.toNatClampNeg → Pt (LeastN (σ.1 3 3).toInt (NmC σ c1 x3)) (fX4_find_42 τ c1 n1 (fX4_find_3 τ c1 n1 N) σ 0 x3 x4) := fun hn => by
      unfold fX4_find_42
      refine pt_nm (fun v e => ?_)
      subst e
      refine ih (x4 + 1) (by omega) (by omega) (fun n hn2 => ?_)
      by_cases q : (n : Int) < x4.toInt
      · exact hs n q
      · rw [show n = x4.toNatClampNeg by omega]; exact hn
    refine pt_ck (fun _ _ _ => pt_nm (fun v e => ?_))
    subst e
    refine pt_if (fun c => ?_) (fun c => next (fun w => c w.1))
    refine pt_ck (fun _ _ _ => ?_)
    refine pt_bi (P := fun r => (r.toInt = 1 ∧ ∀ k : Nat, (k : Int) < x3.toInt → σ.1 (44 + x4.toNatClampNeg) k = σ.1 c1 k) ∨ (r.toInt = 0 ∧ ¬ ∀ k : Nat, (k : Int) < x3.toInt → σ.1 (44 + x4.toNatClampNeg) k = σ.1 c1 k)) ?_ (fun r hr => ?_)
    · unfold fX4_isAlike fX4_isAlike_0
      exact c_alike h6 FU 0 (by decide) (by decide) (fun k hk => absurd hk (by rw [i_0]; omega))
    · refine pt_if (fun q => next (fun w => ?_)) (fun q => pt_some (Or.inr ⟨h0, h, ⟨?_, fun n hn => hs n hn⟩⟩))
      · rcases hr with ⟨a, _⟩ | ⟨_, b⟩
        · rw [q, i_0] at a; omega
        · exact b w.2
      · rw [show x4.toInt.toNat = x4.toNatClampNeg by omega]
        rcases hr with ⟨_, b⟩ | ⟨a, _⟩
        · exact ⟨c, b⟩
        · exact absurd (Int32.toInt_inj.mp (a.trans i_0.symm)) q
theorem m_found_29 {k2 : S2 → Int32 → Int32 → Option Int32} {Q : Int32 → Prop} {x1 x2 : Int32} (h1 : x1.toInt ≤ 6) (hx2 : 0 ≤ x2.toInt ∧ x2.toInt ≤ 39) (yes : NmM ρ x1 x2.toNatClampNeg → Pt Q (some x2)) (no : ¬ NmM ρ x1 x2.toNatClampNeg → Pt Q (k2 ρ x1 (x2 + 1))) : ∀ (N : Nat) (x3 x4 : Int32), 0 ≤ x4.toInt → x4.toInt ≤ 6 → (x3 = 0 → ¬ NmM ρ x1 x2.toNatClampNeg) → (x3 ≠ 0 → ρ.1 1 x2.toNatClampNeg = x1 ∧ ∀ k : Nat, (k : Int) < x4.toInt → ρ.1 2 (6 * x2.toNatClampNeg + k) = ρ.1 34 k) → Pt Q (fX12_found_29 k2 N ρ x1 x2 x3 x4) := by
  have z1 := i_1
  have e6 : (6 : Int32).toInt = 6 := rfl
  have n2 := i32_nat hx2.1
  have p73 : ∀ x3 : Int32, (x3 = 0 → ¬ NmM ρ x1 x2.toNatClampNeg) → (x3 ≠ 0 → NmM ρ x1 x2.toNatClampNeg) → Pt Q (fX12_found_73 k2 ρ x1 x2 x3) := fun x3 a b => by
    unfold fX12_found_73
    exact pt_if (fun c => pt_nm (fun v e => by rw [e]; exact no (a c))) (fun c => yes (b c))
  intro N
  induction N with
  | zero => intro x3 x4 _ _ _ _; exact pt_none
  | succ N ih =>
    intro x3 x4 h0 hx ha hb
    have nx := i32_nat h0
    unfold fX12_found_29
    refine pt_le (fun h => p73 x3 ha (fun c => ⟨(hb c).1, fun k hk => (hb c).2 k (by omega)⟩)) (fun h => ?_)
    refine pt_if (fun c => p73 x3 ha (fun w => absurd c w)) (fun c => ?_)
    have m6 := i32_mulL (a := 6) (b := x2) e6 (by omega) (by omega)
    have ix : (6 * x2 + x4).toInt = 6 * x2.toInt + x4.toInt := by rw [i32_add (by omega) (by omega)]; omega
    have nix := i32_nat (i := 6 * x2 + x4) (by omega)
    refine pt_ck (fun _ _ _ => pt_nm (fun v e => pt_ck (fun _ _ _ => pt_nm (fun v2 e2 => ?_))))
    rw [show (6 * x2 + x4).toNatClampNeg = 6 * x2.toNatClampNeg + x4.toNatClampNeg by omega] at e
    have e4 : (x4 + 1).toInt = x4.toInt + 1 := by rw [i32_add (by omega) (by omega)]; omega
    refine pt_if (fun q => ?_) (fun q => ?_)
    · unfold fX12_found_66
      refine pt_nm (fun w ew => ?_)
      subst ew
      refine ih 1 (x4 + 1) (by omega) (by omega) (fun z => absurd z (by decide)) (fun _ => ⟨(hb c).1, fun k hk => ?_⟩)
      by_cases p : (k : Int) < x4.toInt
      · exact (hb c).2 k p
      · rw [show k = x4.toNatClampNeg by omega, ← e, ← e2]; exact q
    · unfold fX12_found_66
      refine pt_nm (fun w ew => ?_)
      subst ew
      refine ih 0 (x4 + 1) (by omega) (by omega) (fun _ w => q ?_) (fun z => absurd rfl z)
      rw [e, e2]; exact w.2 _ (by omega)
theorem m_foundB {x1 : Int32} (b3 : 0 ≤ (ρ.1 0 0).toInt ∧ (ρ.1 0 0).toInt ≤ 40) (h1 : x1.toInt ≤ 6) : ∀ (N : Nat) (x2 : Int32), 0 ≤ x2.toInt → x2.toInt ≤ 40 → (∀ n : Nat, (n : Int) < x2.toInt → ¬ NmM ρ x1 n) → Pt (LeastN (ρ.1 0 0).toInt (NmM ρ x1)) (fX12_found_2 N ρ x1 x2) := by
  have z1 := i_1
  have y1 := i_m1
  intro N
  induction N with
  | zero => intro x2 _ _ _; exact pt_none
  | succ N ih =>
    intro x2 h0 hx hs
    have nx := i32_nat h0
    unfold fX12_found_2
    refine pt_le (fun h => pt_some (Or.inl ⟨y1, fun n hn => hs n (by omega)⟩)) (fun h => ?_)
    have e4 : (x2 + 1).toInt = x2.toInt + 1 := by rw [i32_add (by omega) (by omega)]; omega
    have next : ¬ NmM ρ x1 x2.toNatClampNeg → Pt (LeastN (ρ.1 0 0).toInt (NmM ρ x1)) (fX12_found_2 N ρ x1 (x2 + 1)) := fun hn => by
      refine ih (x2 + 1) (by omega) (by omega) (fun n hn2 => ?_)
      by_cases q : (n : Int) < x2.toInt
      · exact hs n q
      · rw [show n = x2.toNatClampNeg by omega]; exact hn
    have yes : NmM ρ x1 x2.toNatClampNeg → Pt (LeastN (ρ.1 0 0).toInt (NmM ρ x1)) (some x2) := fun w => pt_some (Or.inr ⟨h0, h, by rw [show x2.toInt.toNat = x2.toNatClampNeg by omega]; exact w, hs⟩)
    refine pt_ck (fun _ _ _ => pt_nm (fun v e => ?_))
    subst e
    unfold fX12_found_25
    refine pt_if (fun c => m_found_29 h1 ⟨h0, by omega⟩ yes next FU 1 0 (by decide) (by decide) (fun z => absurd z (by decide)) (fun _ => ⟨c, fun k hk => absurd hk (by rw [i_0]; omega)⟩)) (fun c => m_found_29 h1 ⟨h0, by omega⟩ yes next FU 0 0 (by decide) (by decide) (fun _ w => c w.1) (fun z => absurd rfl z))
theorem nm_iff {c1 : Nat} {len : Int32} (hI : IvC 0 τ σ) (hN : RNm σ ρ) (hb : ∀ k : Nat, (k : Int) < len.toInt → (-128 ≤ (σ.1 c1 k).toInt ∧ (σ.1 c1 k).toInt ≤ 127) ∧ ρ.1 34 k = σ.1 c1 k &&& 255) {n : Nat} (hn : (n : Int) < (σ.1 3 3).toInt) : NmC σ c1 len n ↔ NmM ρ len n := by
  have b3 : 0 ≤ (σ.1 3 3).toInt ∧ (σ.1 3 3).toInt ≤ 40 := hI.1 3 3
  obtain ⟨e1, e2⟩ := hN.2 n hn
  have bn : ∀ k : Nat, -128 ≤ (σ.1 (44 + n) k).toInt ∧ (σ.1 (44 + n) k).toInt ≤ 127 := fun k => by
    have := hI.1 (44 + n) k
    rw [loC_r0 n k (by omega), hiC_r0 n k (by omega)] at this
    exact this
  constructor
  · intro w
    refine ⟨e1.trans w.1, fun k hk => ?_⟩
    rw [e2 k (by rw [w.1]; exact hk), w.2 k hk]
    exact (hb k hk).2.symm
  · intro w
    have e5 : σ.1 5 n = len := e1.symm.trans w.1
    refine ⟨e5, fun k hk => ?_⟩
    have := w.2 k hk
    rw [e2 k (by rw [e5]; exact hk), (hb k hk).2] at this
    exact byte_inj (bn k) (hb k hk).1 this
/-- both sides find the same name -/
theorem found_eq {c1 n1 : Nat} {len r q : Int32} (hI : IvC 0 τ σ) (b3 : 0 ≤ (ρ.1 0 0).toInt ∧ (ρ.1 0 0).toInt ≤ 40) (hN : RNm σ ρ) (h6 : len.toInt ≤ 6) (hb : ∀ k : Nat, (k : Int) < len.toInt → (-128 ≤ (σ.1 c1 k).toInt ∧ (σ.1 c1 k).toInt ≤ 127) ∧ ρ.1 34 k = σ.1 c1 k &&& 255) (h : fX4_find τ c1 n1 σ 0 len = some r) (h2 : fX12_found ρ len = some q) : r = q := by
  have p1 := c_find (c1 := c1) (n1 := n1) hI h6 FU 0 (by decide) (by decide) (fun n hn => absurd hn (by rw [i_0]; omega)) r h
  have p2 := m_foundB b3 h6 FU 0 (by decide) (by decide) (fun n hn => absurd hn (by rw [i_0]; omega)) q h2
  rw [hN.1] at p2
  exact LeastN.uniq p1 p2 (fun n hn => nm_iff hI hN hb hn)
end NAMES
