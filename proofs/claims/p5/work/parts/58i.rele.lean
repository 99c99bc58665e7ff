/-! shift: both sides move the same elements -/
section SHIFT
variable {σ ρ σ' ρ' : S2} {τ : Nat} {a b c d n r q : Int32}
theorem q_spans {i : Int32} (hI : IvC 0 τ σ) : Pt (fun r => (r.toInt = 0 ∧ ¬ (0 ≤ i.toInt ∧ 0 ≤ n.toInt ∧ i.toInt ≤ (σ.1 40 a.toNatClampNeg).toInt ∧ n.toInt ≤ (σ.1 40 a.toNatClampNeg).toInt - i.toInt)) ∨ (r.toInt = 1 ∧ (0 ≤ i.toInt ∧ 0 ≤ n.toInt ∧ i.toInt ≤ (σ.1 40 a.toNatClampNeg).toInt ∧ n.toInt ≤ (σ.1 40 a.toNatClampNeg).toInt - i.toInt))) (fX7_spans τ σ a i n) := by
  have z0 := i_0
  have z1 := i_1
  have b40 : 0 ≤ (σ.1 40 a.toNatClampNeg).toInt ∧ (σ.1 40 a.toNatClampNeg).toInt ≤ 60 := hI.1 40 _
  unfold fX7_spans fX7_spans_0
  refine pt_lt (fun h => pt_some (by rw [z0]; omega)) (fun h => ?_)
  refine pt_lt (fun h => pt_some (by rw [z0]; omega)) (fun h1 => ?_)
  refine pt_ck (fun _ _ _ => pt_nm (fun v e => ?_))
  subst e
  refine pt_lt (fun h => pt_some (by rw [z0]; omega)) (fun h2 => ?_)
  refine pt_ck (fun _ _ _ => pt_nm (fun v e => ?_))
  subst e
  have es : (σ.1 40 a.toNatClampNeg - i).toInt = (σ.1 40 a.toNatClampNeg).toInt - i.toInt := i32_sub (by omega) (by omega)
  exact pt_lt (fun h => pt_some (by rw [z0]; omega)) (fun h3 => pt_some (by rw [z1]; omega))
/-- the answer of shift: row a from b on, to row c from d on, n elements; sorts, keepers and lengths of the two rows -/
def ShQ (a c ta tc ka kc la lc i j n x : Int) : Prop :=
  (x = -1 ∧ ¬ ((0 ≤ a ∧ a ≤ 5) ∧ (0 ≤ c ∧ c ≤ 5))) ∨ (x = -11 ∧ ((0 ≤ a ∧ a ≤ 5) ∧ (0 ≤ c ∧ c ≤ 5)) ∧ ((ta = -1 ∧ ka = -1) ∨ (tc = -1 ∧ kc = -1))) ∨ (x = -12 ∧ ((0 ≤ a ∧ a ≤ 5) ∧ (0 ≤ c ∧ c ≤ 5)) ∧ ¬ (ta = -1 ∧ ka = -1) ∧ ¬ (tc = -1 ∧ kc = -1) ∧ (ta = -1 ∨ tc = -1 ∨ ta ≠ tc)) ∨ (x = -13 ∧ ((0 ≤ a ∧ a ≤ 5) ∧ (0 ≤ c ∧ c ≤ 5)) ∧ ta ≠ -1 ∧ tc ≠ -1 ∧ ta = tc ∧ (¬ (0 ≤ i ∧ 0 ≤ n ∧ i ≤ la ∧ n ≤ la - i) ∨ ¬ (0 ≤ j ∧ 0 ≤ n ∧ j ≤ lc ∧ n ≤ lc - j)))
def ShG (a c ta tc la lc i j n : Int) : Prop := ((0 ≤ a ∧ a ≤ 5) ∧ (0 ≤ c ∧ c ≤ 5)) ∧ ta ≠ -1 ∧ tc ≠ -1 ∧ ta = tc ∧ (0 ≤ i ∧ 0 ≤ n ∧ i ≤ la ∧ n ≤ la - i) ∧ (0 ≤ j ∧ 0 ≤ n ∧ j ≤ lc ∧ n ≤ lc - j)
theorem c_shift (hI : IvC 0 τ σ) : Pt (fun z => (z.2 = σ ∧ ShQ a.toInt c.toInt (σ.1 39 a.toNatClampNeg).toInt (σ.1 39 c.toNatClampNeg).toInt (σ.1 38 a.toNatClampNeg).toInt (σ.1 38 c.toNatClampNeg).toInt (σ.1 40 a.toNatClampNeg).toInt (σ.1 40 c.toNatClampNeg).toInt b.toInt d.toInt n.toInt z.1.toInt) ∨ (ShG a.toInt c.toInt (σ.1 39 a.toNatClampNeg).toInt (σ.1 39 c.toNatClampNeg).toInt (σ.1 40 a.toNatClampNeg).toInt (σ.1 40 c.toNatClampNeg).toInt b.toInt d.toInt n.toInt ∧ z.1 = n ∧ z.2 = ux_L σ (176 + c.toNatClampNeg) (va_cpy (σ.2 (176 + a.toNatClampNeg)) (σ.2 (176 + c.toNatClampNeg)) b.toNatClampNeg d.toNatClampNeg n.toNatClampNeg))) (fX11_shift τ σ a b c d n) := by
  have z0 := i_0
  have y1 := i_m1
  have y11 := i_m11
  have y12 := i_m12
  have y13 := i_m13
  have bad : ∀ x : Int32, ShQ a.toInt c.toInt (σ.1 39 a.toNatClampNeg).toInt (σ.1 39 c.toNatClampNeg).toInt (σ.1 38 a.toNatClampNeg).toInt (σ.1 38 c.toNatClampNeg).toInt (σ.1 40 a.toNatClampNeg).toInt (σ.1 40 c.toNatClampNeg).toInt b.toInt d.toInt n.toInt x.toInt → Pt (fun z => (z.2 = σ ∧ ShQ a.toInt c.toInt (σ.1 39 a.toNatClampNeg).toInt (σ.1 39 c.toNatClampNeg).toInt (σ.1 38 a.toNatClampNeg).toInt (σ.1 38 c.toNatClampNeg).toInt (σ.1 40 a.toNatClampNeg).toInt (σ.1 40 c.toNatClampNeg).toInt b.toInt d.toInt n.toInt z.1.toInt) ∨ (ShG a.toInt c.toInt (σ.1 39 a.toNatClampNeg).toInt (σ.1 39 c.toNatClampNeg).toInt (σ.1 40 a.toNatClampNeg).toInt (σ.1 40 c.toNatClampNeg).toInt b.toInt d.toInt n.toInt ∧ z.1 = n ∧ z.2 = ux_L σ (176 + c.toNatClampNeg) (va_cpy (σ.2 (176 + a.toNatClampNeg)) (σ.2 (176 + c.toNatClampNeg)) b.toNatClampNeg d.toNatClampNeg n.toNatClampNeg))) (some (x, σ)) := fun x h => pt_some (Or.inl ⟨rfl, h⟩)
  unfold fX11_shift fX11_shift_0
  refine pt_bi q_shelf (fun r1 h1 => ?_)
  refine pt_eq (fun g => bad _ (Or.inl (by omega))) (fun g1 => ?_)
  refine pt_bi q_shelf (fun r2 h2 => ?_)
  refine pt_eq (fun g => bad _ (Or.inl (by omega))) (fun g2 => ?_)
  refine pt_bi q_empty (fun r3 h3 => ?_)
  refine pt_eq (fun g3 => ?_) (fun g => bad _ (Or.inr (Or.inl (by omega))))
  refine pt_bi q_empty (fun r4 h4 => ?_)
  refine pt_eq (fun g4 => ?_) (fun g => bad _ (Or.inr (Or.inl (by omega))))
  refine pt_bi q_isRow (fun r5 h5 => ?_)
  refine pt_eq (fun g => bad _ (Or.inr (Or.inr (Or.inl (by omega))))) (fun g5 => ?_)
  refine pt_bi q_isRow (fun r6 h6 => ?_)
  refine pt_eq (fun g => bad _ (Or.inr (Or.inr (Or.inl (by omega))))) (fun g6 => ?_)
  refine pt_ck (fun _ _ _ => pt_nm (fun v e => pt_ck (fun _ _ _ => pt_nm (fun v2 e2 => ?_))))
  subst e; subst e2
  refine pt_eq (fun g7 => ?_) (fun g => bad _ (Or.inr (Or.inr (Or.inl (by omega)))))
  refine pt_bi (q_spans hI) (fun r7 h7 => ?_)
  refine pt_eq (fun g => bad _ (Or.inr (Or.inr (Or.inr (by omega))))) (fun g8 => ?_)
  refine pt_bi (q_spans hI) (fun r8 h8 => ?_)
  refine pt_eq (fun g => bad _ (Or.inr (Or.inr (Or.inr (by omega))))) (fun g9 => ?_)
  refine pt_ck (fun _ _ _ => pt_ck (fun _ _ _ => pt_cpL (fun _ => pt_some (Or.inr ⟨?_, rfl, rfl⟩))))
  unfold ShG
  omega
theorem m_shift_167 {x5 x6 x7 : Int32} (n0 : 0 ≤ x5.toInt) (n1 : x5.toInt ≤ 60) (a0 : 0 ≤ x6.toInt) (a1 : x6.toInt + x5.toInt ≤ 360) (b0 : 0 ≤ x7.toInt) (b1 : x7.toInt + x5.toInt ≤ 360) {f0 : Nat → Int64} {k0 : Nat → Nat → Int32} : ∀ (N : Nat) (σ : S2) (x8 : Int32), 0 ≤ x8.toInt → x8.toInt ≤ x5.toInt → σ.1 = k0 → (∀ t : Nat, σ.2 33 t = if (x7.toInt ≤ x6.toInt ∧ x7.toInt ≤ (t : Int) ∧ (t : Int) < x7.toInt + x8.toInt) ∨ (x6.toInt < x7.toInt ∧ x7.toInt + x5.toInt - x8.toInt ≤ (t : Int) ∧ (t : Int) < x7.toInt + x5.toInt) then f0 (x6.toInt + ((t : Int) - x7.toInt)).toNat else f0 t) → Pt (fun z : Int32 × S2 => z.1 = x5 ∧ z.2.1 = k0 ∧ ∀ t : Nat, z.2.2 33 t = if x7.toInt ≤ (t : Int) ∧ (t : Int) < x7.toInt + x5.toInt then f0 (x6.toInt + ((t : Int) - x7.toInt)).toNat else f0 t) (fX12_shift_167 N σ x5 x6 x7 x8) := by
  have z1 := i_1
  intro N
  induction N with
  | zero => intro σ x8 _ _ _ _; exact pt_none
  | succ N ih =>
    intro σ x8 h0 h1 hs hJ
    have step : ∀ s0 : Int32, 0 ≤ s0.toInt → s0.toInt < x5.toInt → σ.2 33 (x6 + s0).toNatClampNeg = f0 (x6.toInt + s0.toInt).toNat → (∀ t : Nat, (if t = (x7.toInt + s0.toInt).toNat then f0 (x6.toInt + s0.toInt).toNat else σ.2 33 t) = if (x7.toInt ≤ x6.toInt ∧ x7.toInt ≤ (t : Int) ∧ (t : Int) < x7.toInt + (x8.toInt + 1)) ∨ (x6.toInt < x7.toInt ∧ x7.toInt + x5.toInt - (x8.toInt + 1) ≤ (t : Int) ∧ (t : Int) < x7.toInt + x5.toInt) then f0 (x6.toInt + ((t : Int) - x7.toInt)).toNat else f0 t) → x8.toInt + 1 ≤ x5.toInt → Pt (fun z : Int32 × S2 => z.1 = x5 ∧ z.2.1 = k0 ∧ ∀ t : Nat, z.2.2 33 t = if x7.toInt ≤ (t : Int) ∧ (t : Int) < x7.toInt + x5.toInt then f0 (x6.toInt + ((t : Int) - x7.toInt)).toNat else f0 t) (fX12_shift_193 (fX12_shift_167 N) σ x5 x6 x7 x8 s0) := fun s0 q0 q1 hr hw h9 => by
      have ea : (x6 + s0).toInt = x6.toInt + s0.toInt := i32_add (by omega) (by omega)
      have eb : (x7 + s0).toInt = x7.toInt + s0.toInt := i32_add (by omega) (by omega)
      have nb := i32_nat (i := x7 + s0) (by omega)
      unfold fX12_shift_193
      refine pt_ck (fun _ _ _ => pt_nm (fun v e => pt_ck (fun _ _ _ => pt_nm (fun s1 e1 => pt_nm (fun v3 e3 => ?_)))))
      subst e; subst e1
      have e4 : v3.toInt = x8.toInt + 1 := by rw [e3, i32_add (by omega) (by omega)]; omega
      refine ih _ v3 (by omega) (by omega) hs (fun t => ?_)
      rw [e4, ← hw t, hr]
      show (if t = (x7 + s0).toNatClampNeg then f0 (x6.toInt + s0.toInt).toNat else σ.2 33 t) = _
      rw [show (x7 + s0).toNatClampNeg = (x7.toInt + s0.toInt).toNat by omega]
    unfold fX12_shift_167
    refine pt_le (fun h2 => pt_some ⟨rfl, hs, fun t => ?_⟩) (fun h2 => pt_le (fun h3 => ?_) (fun h3 => ?_))
    · show σ.2 33 t = _
      rw [hJ t]
      by_cases c : x7.toInt ≤ (t : Int) ∧ (t : Int) < x7.toInt + x5.toInt
      · rw [if_pos (by omega), if_pos c]
      · rw [if_neg (by omega), if_neg c]
    · refine step x8 h0 (by omega) ?_ (fun t => ?_) (by omega)
      · have ea : (x6 + x8).toInt = x6.toInt + x8.toInt := i32_add (by omega) (by omega)
        have na := i32_nat (i := x6 + x8) (by omega)
        rw [hJ, if_neg (by omega), show (x6 + x8).toNatClampNeg = (x6.toInt + x8.toInt).toNat by omega]
      · by_cases c : t = (x7.toInt + x8.toInt).toNat
        · rw [if_pos c, if_pos (by omega), show x6.toInt + ((t : Int) - x7.toInt) = x6.toInt + x8.toInt by omega]
        · rw [if_neg c, hJ t]
          by_cases c2 : x7.toInt ≤ (t : Int) ∧ (t : Int) < x7.toInt + x8.toInt
          · rw [if_pos (by omega), if_pos (by omega)]
          · rw [if_neg (by omega), if_neg (by omega)]
    · have es : (x5 - 1).toInt = x5.toInt - 1 := by rw [i32_sub (by omega) (by omega)]; omega
      have es2 : (x5 - 1 - x8).toInt = x5.toInt - 1 - x8.toInt := by rw [i32_sub (by omega) (by omega)]; omega
      refine step (x5 - 1 - x8) (by omega) (by omega) ?_ (fun t => ?_) (by omega)
      · have ea : (x6 + (x5 - 1 - x8)).toInt = x6.toInt + (x5 - 1 - x8).toInt := i32_add (by omega) (by omega)
        have na := i32_nat (i := x6 + (x5 - 1 - x8)) (by omega)
        rw [hJ, if_neg (by omega), show (x6 + (x5 - 1 - x8)).toNatClampNeg = (x6.toInt + (x5 - 1 - x8).toInt).toNat by omega]
      · by_cases c : t = (x7.toInt + (x5 - 1 - x8).toInt).toNat
        · rw [if_pos c, if_pos (by omega), show x6.toInt + ((t : Int) - x7.toInt) = x6.toInt + (x5 - 1 - x8).toInt by omega]
        · rw [if_neg c, hJ t]
          by_cases c2 : x7.toInt + x5.toInt - x8.toInt ≤ (t : Int) ∧ (t : Int) < x7.toInt + x5.toInt
          · rw [if_pos (by omega), if_pos (by omega)]
          · rw [if_neg (by omega), if_neg (by omega)]
theorem m_shift (hM : IvM 0 ρ) : Pt (fun z => (z.2 = ρ ∧ ShQ a.toInt c.toInt (ρ.1 31 a.toNatClampNeg).toInt (ρ.1 31 c.toNatClampNeg).toInt (ρ.1 30 a.toNatClampNeg).toInt (ρ.1 30 c.toNatClampNeg).toInt (ρ.1 32 a.toNatClampNeg).toInt (ρ.1 32 c.toNatClampNeg).toInt b.toInt d.toInt n.toInt z.1.toInt) ∨ (ShG a.toInt c.toInt (ρ.1 31 a.toNatClampNeg).toInt (ρ.1 31 c.toNatClampNeg).toInt (ρ.1 32 a.toNatClampNeg).toInt (ρ.1 32 c.toNatClampNeg).toInt b.toInt d.toInt n.toInt ∧ z.1 = n ∧ z.2.1 = ρ.1 ∧ ∀ t : Nat, z.2.2 33 t = if 60 * c.toInt + d.toInt ≤ (t : Int) ∧ (t : Int) < 60 * c.toInt + d.toInt + n.toInt then ρ.2 33 (60 * a.toInt + b.toInt + ((t : Int) - (60 * c.toInt + d.toInt))).toNat else ρ.2 33 t)) (fX12_shift ρ a b c d n) := by
  have z0 := i_0
  have y1 := i_m1
  have y11 := i_m11
  have y12 := i_m12
  have y13 := i_m13
  have ba : -1 ≤ (ρ.1 31 a.toNatClampNeg).toInt ∧ (ρ.1 31 a.toNatClampNeg).toInt ≤ 4 := hM.1 31 _
  have bc : -1 ≤ (ρ.1 31 c.toNatClampNeg).toInt ∧ (ρ.1 31 c.toNatClampNeg).toInt ≤ 4 := hM.1 31 _
  have ka : -1 ≤ (ρ.1 30 a.toNatClampNeg).toInt ∧ (ρ.1 30 a.toNatClampNeg).toInt ≤ 11 := hM.1 30 _
  have kc : -1 ≤ (ρ.1 30 c.toNatClampNeg).toInt ∧ (ρ.1 30 c.toNatClampNeg).toInt ≤ 11 := hM.1 30 _
  have la : 0 ≤ (ρ.1 32 a.toNatClampNeg).toInt ∧ (ρ.1 32 a.toNatClampNeg).toInt ≤ 60 := hM.1 32 _
  have lc : 0 ≤ (ρ.1 32 c.toNatClampNeg).toInt ∧ (ρ.1 32 c.toNatClampNeg).toInt ≤ 60 := hM.1 32 _
  generalize hQ : (fun z : Int32 × S2 => (z.2 = ρ ∧ ShQ a.toInt c.toInt (ρ.1 31 a.toNatClampNeg).toInt (ρ.1 31 c.toNatClampNeg).toInt (ρ.1 30 a.toNatClampNeg).toInt (ρ.1 30 c.toNatClampNeg).toInt (ρ.1 32 a.toNatClampNeg).toInt (ρ.1 32 c.toNatClampNeg).toInt b.toInt d.toInt n.toInt z.1.toInt) ∨ (ShG a.toInt c.toInt (ρ.1 31 a.toNatClampNeg).toInt (ρ.1 31 c.toNatClampNeg).toInt (ρ.1 32 a.toNatClampNeg).toInt (ρ.1 32 c.toNatClampNeg).toInt b.toInt d.toInt n.toInt ∧ z.1 = n ∧ z.2.1 = ρ.1 ∧ ∀ t : Nat, z.2.2 33 t = if 60 * c.toInt + d.toInt ≤ (t : Int) ∧ (t : Int) < 60 * c.toInt + d.toInt + n.toInt then ρ.2 33 (60 * a.toInt + b.toInt + ((t : Int) - (60 * c.toInt + d.toInt))).toNat else ρ.2 33 t)) = Q
  have bad : ∀ x : Int32, ShQ a.toInt c.toInt (ρ.1 31 a.toNatClampNeg).toInt (ρ.1 31 c.toNatClampNeg).toInt (ρ.1 30 a.toNatClampNeg).toInt (ρ.1 30 c.toNatClampNeg).toInt (ρ.1 32 a.toNatClampNeg).toInt (ρ.1 32 c.toNatClampNeg).toInt b.toInt d.toInt n.toInt x.toInt → Pt Q (some (x, ρ)) := fun x h => pt_some (by rw [← hQ]; exact Or.inl ⟨rfl, h⟩)
  unfold fX12_shift fX12_shift_0
  refine pt_bi q_shelfM (fun r1 h1 => ?_)
  refine pt_eq (fun g => bad _ (Or.inl (by omega))) (fun g1 => ?_)
  refine pt_bi q_shelfM (fun r2 h2 => ?_)
  refine pt_eq (fun g => bad _ (Or.inl (by omega))) (fun g2 => ?_)
  have p55 : ¬ ((ρ.1 31 a.toNatClampNeg).toInt = -1 ∧ (ρ.1 30 a.toNatClampNeg).toInt = -1) → ¬ ((ρ.1 31 c.toNatClampNeg).toInt = -1 ∧ (ρ.1 30 c.toNatClampNeg).toInt = -1) → Pt Q (fX12_shift_55 ρ a b c d n) := fun w1 w2 => by
    unfold fX12_shift_55
    refine pt_ck (fun _ _ _ => pt_nm (fun v e => ?_))
    subst e
    refine pt_lt (fun g => bad _ (Or.inr (Or.inr (Or.inl (by omega))))) (fun g3 => ?_)
    refine pt_ck (fun _ _ _ => pt_nm (fun v e => pt_ck (fun _ _ _ => pt_nm (fun v2 e2 => ?_))))
    subst e; subst e2
    refine pt_eq (fun g4 => ?_) (fun g => bad _ (Or.inr (Or.inr (Or.inl (by omega)))))
    refine pt_lt (fun g => bad _ (Or.inr (Or.inr (Or.inr (by omega))))) (fun g5 => ?_)
    refine pt_lt (fun g => bad _ (Or.inr (Or.inr (Or.inr (by omega))))) (fun g6 => ?_)
    refine pt_lt (fun g => bad _ (Or.inr (Or.inr (Or.inr (by omega))))) (fun g7 => ?_)
    refine pt_ck (fun _ _ _ => pt_nm (fun v e => ?_))
    subst e
    refine pt_lt (fun g => bad _ (Or.inr (Or.inr (Or.inr (by omega))))) (fun g8 => ?_)
    refine pt_ck (fun _ _ _ => pt_nm (fun v e => ?_))
    subst e
    refine pt_lt (fun g => bad _ (Or.inr (Or.inr (Or.inr (by omega))))) (fun g9 => ?_)
    refine pt_ck (fun _ _ _ => pt_nm (fun v e => ?_))
    subst e
    have es : (ρ.1 32 a.toNatClampNeg - b).toInt = (ρ.1 32 a.toNatClampNeg).toInt - b.toInt := i32_sub (by omega) (by omega)
    have es2 : (ρ.1 32 c.toNatClampNeg - d).toInt = (ρ.1 32 c.toNatClampNeg).toInt - d.toInt := i32_sub (by omega) (by omega)
    refine pt_lt (fun g => bad _ (Or.inr (Or.inr (Or.inr (by omega))))) (fun g10 => ?_)
    refine pt_ck (fun _ _ _ => pt_nm (fun v e => ?_))
    subst e
    refine pt_le (fun g11 => ?_) (fun g => bad _ (Or.inr (Or.inr (Or.inr (by omega)))))
    refine pt_nm (fun v e => pt_nm (fun v2 e2 => ?_))
    have i1 := (el_ix (a := a) (i := b) (by omega) (by omega) (by omega) (by omega)).1
    have i2 := (el_ix (a := c) (i := d) (by omega) (by omega) (by omega) (by omega)).1
    rw [← e] at i1
    rw [← e2] at i2
    refine pt_mono (m_shift_167 (x5 := n) (x6 := v) (x7 := v2) (by omega) (by omega) (by omega) (by omega) (by omega) (by omega) (f0 := ρ.2 33) (k0 := ρ.1) FU ρ 0 (by decide) (by omega) rfl (fun t => ?_)) (fun z hz => ?_)
    · rw [if_neg (by omega)]
    · rw [← hQ]
      refine Or.inr ⟨?_, hz.1, hz.2.1, fun t => ?_⟩
      · unfold ShG; omega
      · rw [hz.2.2 t, i1, i2]
  have p34 : ¬ ((ρ.1 31 a.toNatClampNeg).toInt = -1 ∧ (ρ.1 30 a.toNatClampNeg).toInt = -1) → Pt Q (fX12_shift_34 ρ a b c d n) := fun w1 => by
    unfold fX12_shift_34
    refine pt_ck (fun _ _ _ => pt_nm (fun v e => ?_))
    subst e
    refine pt_le (fun g => p55 w1 (by omega)) (fun g3 => ?_)
    refine pt_ck (fun _ _ _ => pt_nm (fun v e => ?_))
    subst e
    exact pt_le (fun g => p55 w1 (by omega)) (fun g => bad _ (Or.inr (Or.inl (by omega))))
  refine pt_ck (fun _ _ _ => pt_nm (fun v e => ?_))
  subst e
  refine pt_le (fun g => p34 (by omega)) (fun g3 => ?_)
  refine pt_ck (fun _ _ _ => pt_nm (fun v e => ?_))
  subst e
  exact pt_lt (fun g => bad _ (Or.inr (Or.inl (by omega)))) (fun g => p34 (by omega))
theorem st_shift (hR : RelA σ ρ) (hI : IvC 0 τ σ) (hM : IvM 0 ρ) (h : fX11_shift τ σ a b c d n = some (r, σ')) (h2 : fX12_shift ρ a b c d n = some (q, ρ')) : r = q ∧ RelA σ' ρ' := by
  have p1 := c_shift (a := a) (b := b) (c := c) (d := d) (n := n) hI _ h
  have p2 := m_shift (a := a) (b := b) (c := c) (d := d) (n := n) hM _ h2
  obtain ⟨hk, hF, hA, hS, hE⟩ := hR
  have fc := wfX11_shift (m := 4194304) rfl τ σ a b c d n (Fr.rf σ) _ h
  have fm := wfX12_shift (m := 4194304) rfl ρ a b c d n (Fr.rf ρ) _ h2
  have la : 0 ≤ (σ.1 40 a.toNatClampNeg).toInt ∧ (σ.1 40 a.toNatClampNeg).toInt ≤ 60 := hI.1 40 _
  have lc : 0 ≤ (σ.1 40 c.toNatClampNeg).toInt ∧ (σ.1 40 c.toNatClampNeg).toInt ≤ 60 := hI.1 40 _
  have same : (0 ≤ a.toInt ∧ a.toInt ≤ 5) ∧ (0 ≤ c.toInt ∧ c.toInt ≤ 5) → (ρ.1 31 a.toNatClampNeg).toInt = (σ.1 39 a.toNatClampNeg).toInt ∧ (ρ.1 31 c.toNatClampNeg).toInt = (σ.1 39 c.toNatClampNeg).toInt ∧ (ρ.1 30 a.toNatClampNeg).toInt = (σ.1 38 a.toNatClampNeg).toInt ∧ (ρ.1 30 c.toNatClampNeg).toInt = (σ.1 38 c.toNatClampNeg).toInt ∧ ((σ.1 39 a.toNatClampNeg).toInt ≠ -1 → (ρ.1 32 a.toNatClampNeg).toInt = (σ.1 40 a.toNatClampNeg).toInt) ∧ ((σ.1 39 c.toNatClampNeg).toInt ≠ -1 → (ρ.1 32 c.toNatClampNeg).toInt = (σ.1 40 c.toNatClampNeg).toInt) := fun w => by
    have n1 := i32_nat w.1.1
    have n2 := i32_nat w.2.1
    obtain ⟨s1, s2, s3, _⟩ := hS a.toNatClampNeg (by omega)
    obtain ⟨t1, t2, t3, _⟩ := hS c.toNatClampNeg (by omega)
    refine ⟨by rw [s2], by rw [t2], by rw [s1], by rw [t1], fun w => ?_, fun w => ?_⟩
    · rw [(s3 (fun e => w (by rw [e]; rfl))).1]
    · rw [(t3 (fun e => w (by rw [e]; rfl))).1]
  unfold ShQ ShG at p1 p2
  rcases p1 with ⟨e, p1⟩ | ⟨g, e, e2⟩ <;> rcases p2 with ⟨d2, p2⟩ | ⟨f, d2, d3, d4⟩
  · have e : σ' = σ := e
    have d2 : ρ' = ρ := d2
    subst e; subst d2
    refine ⟨Int32.toInt_inj.mp ?_, hk, hF, hA, hS, hE⟩
    by_cases w : (0 ≤ a.toInt ∧ a.toInt ≤ 5) ∧ (0 ≤ c.toInt ∧ c.toInt ≤ 5)
    · have same := same w
      show r.toInt = q.toInt
      have p1 : (r.toInt = -1 ∧ _) ∨ (r.toInt = -11 ∧ _) ∨ (r.toInt = -12 ∧ _) ∨ (r.toInt = -13 ∧ _) := p1
      have p2 : (q.toInt = -1 ∧ _) ∨ (q.toInt = -11 ∧ _) ∨ (q.toInt = -12 ∧ _) ∨ (q.toInt = -13 ∧ _) := p2
      omega
    · have p1 : (r.toInt = -1 ∧ _) ∨ (r.toInt = -11 ∧ _) ∨ (r.toInt = -12 ∧ _) ∨ (r.toInt = -13 ∧ _) := p1
      have p2 : (q.toInt = -1 ∧ _) ∨ (q.toInt = -11 ∧ _) ∨ (q.toInt = -12 ∧ _) ∨ (q.toInt = -13 ∧ _) := p2
      show r.toInt = q.toInt
      omega
  · exfalso; have same := same f.1; omega
  · exfalso; have same := same g.1; omega
  · refine ⟨Eq.trans e (Eq.symm d2), hk.fr fc fm rfl rfl rfl rfl rfl rfl rfl rfl, hF.fr fc fm rfl rfl, hA.fr fc fm rfl rfl, hS.fr fc fm rfl rfl (by rw [(fc 7 5 rfl).1]; exact Int.le_refl _), fun s t hs ht => ?_⟩
    have e2 : σ' = _ := e2
    have d4 : ρ'.2 33 (60 * s + t) = _ := d4 (60 * s + t)
    have na := i32_nat g.1.1.1
    have nc := i32_nat g.1.2.1
    have nb := i32_nat (i := b) (by omega)
    have nd := i32_nat (i := d) (by omega)
    have nn := i32_nat (i := n) (by omega)
    rw [d4, e2]
    show _ = (if 176 + s = 176 + c.toNatClampNeg then va_cpy (σ.2 (176 + a.toNatClampNeg)) (σ.2 (176 + c.toNatClampNeg)) b.toNatClampNeg d.toNatClampNeg n.toNatClampNeg else σ.2 (176 + s)) t
    by_cases k1 : s = c.toNatClampNeg
    · rw [if_pos (c := 176 + s = 176 + c.toNatClampNeg) (by omega)]
      show _ = (if d.toNatClampNeg ≤ t ∧ t < d.toNatClampNeg + n.toNatClampNeg then σ.2 (176 + a.toNatClampNeg) (b.toNatClampNeg + (t - d.toNatClampNeg)) else σ.2 (176 + c.toNatClampNeg) t)
      by_cases k2 : d.toNatClampNeg ≤ t ∧ t < d.toNatClampNeg + n.toNatClampNeg
      · rw [if_pos k2, if_pos (by omega), ← hE a.toNatClampNeg (b.toNatClampNeg + (t - d.toNatClampNeg)) (by omega) (by omega)]
        exact congrArg (ρ.2 33) (by omega)
      · rw [if_neg k2, if_neg (by omega), k1]; exact hE _ _ (by omega) ht
    · rw [if_neg (c := 176 + s = 176 + c.toNatClampNeg) (by omega), if_neg (by omega)]; exact hE _ _ hs ht
end SHIFT
