/-! names out of a row -/
theorem lgc (x y : Int64) : ((lg_cmp x y) < 0 ↔ x.toInt < y.toInt) ∧ (0 < (lg_cmp x y) ↔ y.toInt < x.toInt) := by
  unfold lg_cmp
  by_cases q : x > y
  · have h := Int64.lt_iff_toInt_lt.mp q
    rw [if_pos q]
    exact ⟨⟨fun h => absurd h (by decide), fun h => by omega⟩, ⟨fun _ => h, fun _ => by decide⟩⟩
  · have h : ¬ y.toInt < x.toInt := fun r => q (Int64.lt_iff_toInt_lt.mpr r)
    rw [if_neg q]
    by_cases q2 : x = y
    · rw [if_pos q2, q2]
      exact ⟨⟨fun h => absurd h (by decide), fun h => by omega⟩, ⟨fun h => absurd h (by decide), fun h => by omega⟩⟩
    · have h5 : x.toInt ≠ y.toInt := fun r => q2 (Int64.toInt_inj.mp r)
      rw [if_neg q2]
      exact ⟨⟨fun _ => by omega, fun _ => by decide⟩, ⟨fun h => absurd h (by decide), fun h6 => by omega⟩⟩
theorem i64_32 {v : Int64} (h0 : -128 ≤ v.toInt) (h1 : v.toInt ≤ 127) : (Int64.toInt32 v).toInt = v.toInt := by
  rw [Int64.toInt_toInt32]; exact Int.bmod_eq_of_le (by omega) (by omega)
def nbv (v : Int64) : Int32 := vp_nar .byte (Int8.toInt32 (Int32.toInt8 (Int64.toInt32 v)))
theorem nbv_255 (v : Int64) : nbv v &&& 255 = (Int64.toInt32 v) &&& 255 := by
  unfold nbv
  rw [nar_byte, Int8.toInt8_toInt32, byte255]
/-- row s holds the same bytes on both sides -/
def ElB (σ ρ : S2) (s : Nat) : Prop := ∀ i : Nat, i < 60 → ρ.2 33 (60 * s + i) = σ.2 (176 + s) i ∧ -128 ≤ (σ.2 (176 + s) i).toInt ∧ (σ.2 (176 + s) i).toInt ≤ 127
section NAMES2
variable {σ ρ : S2} {τ : Nat}
/-- what addFrom does behind the bytes of a name -/
def cBody (τ c1 n1 : Nat) (k9 : S2 → Int32 → Int32 → Int32 → Int32 → Int32 → Option (Int32 × S2)) (σ : S2) (x2 x4 x5 x6 x7 x10 : Int32) : Option (Int32 × S2) := nm (x6 + (1 + x10)) (fun v2 => bi (fX4_find τ 6 6 σ 0 x10) (fun r3 => if r3 = (-1) then bs (fX4_add τ 6 6 σ 0 x10) (fun r5 σ6 => if r5 = (-1) then some (x5, σ6) else nm (x5 + 1) (fun v8 => fX4_addFrom_153 τ c1 n1 k9 σ6 x2 x4 v8 v2 x7)) else fX4_addFrom_153 τ c1 n1 k9 σ x2 x4 x5 v2 x7))
theorem c_fill {s : Nat} {k9 : S2 → Int32 → Int32 → Int32 → Int32 → Int32 → Option (Int32 × S2)} {Q : Int32 × S2 → Prop} {σ0 : S2} {x2 x4 x5 x6 x7 x10 : Int32} (h6 : 0 ≤ x6.toInt) (h10 : x10.toInt ≤ 6) (hm : x6.toInt + x10.toInt < 60) (kx : ∀ σ2 : S2, IvC 0 τ σ2 → (∀ i : Nat, (i : Int) < x10.toInt → σ2.1 6 i = nbv (σ0.2 (176 + s) (x6.toInt.toNat + 1 + i))) → (∀ k i : Nat, k ≠ 6 → σ2.1 k i = σ0.1 k i) → σ2.2 = σ0.2 → Pt Q (cBody τ (176 + s) 60 k9 σ2 x2 x4 x5 x6 x7 x10)) : ∀ (N : Nat) (σ : S2) (x11 : Int32), 0 ≤ x11.toInt → IvC 0 τ σ → (∀ i : Nat, (i : Int) < x11.toInt → σ.1 6 i = nbv (σ0.2 (176 + s) (x6.toInt.toNat + 1 + i))) → (∀ k i : Nat, k ≠ 6 → σ.1 k i = σ0.1 k i) → σ.2 = σ0.2 → Pt Q (fX4_addFrom_74 τ (176 + s) 60 k9 N σ x2 x4 x5 x6 x7 x10 x11) := by
  have z1 := i_1
  intro N
  induction N with
  | zero => intro σ x11 _ _ _ _ _; exact pt_none
  | succ N ih =>
    intro σ x11 h0 hI hd hf h2
    unfold fX4_addFrom_74
    refine pt_le (fun h => kx σ hI (fun i hi => hd i (by omega)) hf h2) (fun h => ?_)
    have n11 := i32_nat h0
    have e1 : (x6 + 1).toInt = x6.toInt + 1 := by rw [i32_add (by omega) (by omega)]; omega
    have e2 : (x6 + 1 + x11).toInt = x6.toInt + 1 + x11.toInt := by rw [i32_add (by omega) (by omega)]; omega
    have e3 : (x11 + 1).toInt = x11.toInt + 1 := by rw [i32_add (by omega) (by omega)]; omega
    have n2 := i32_nat (i := x6 + 1 + x11) (by omega)
    refine pt_ck (fun _ _ _ => pt_nm (fun v9 e9 => pt_ck (fun _ _ _ => pt_nm (fun s1 es => pt_nm (fun v11 ev => ?_)))))
    rw [ev]
    have bn := i32_narB (Int8.toInt32 (Int32.toInt8 (Int64.toInt32 v9)))
    have es : s1 = ux_wI σ 6 x11.toNatClampNeg (nbv v9) := es
    have bn : -128 ≤ (nbv v9).toInt ∧ (nbv v9).toInt ≤ 127 := bn
    have hI1 : IvC 0 τ s1 := by
      rw [es]
      exact IvC.wF hI (by decide) (by omega) (show (-128) ≤ (nbv v9).toInt from bn.1) (show (nbv v9).toInt ≤ 127 from bn.2)
    have g9 : v9 = σ0.2 (176 + s) (x6.toInt.toNat + 1 + x11.toNatClampNeg) := by
      rw [e9, h2]; exact congrArg (σ0.2 (176 + s)) (by omega)
    refine ih s1 (x11 + 1) (by omega) hI1 (fun i hi => ?_) (fun k i hk => ?_) ?_
    · by_cases c : i = x11.toNatClampNeg
      · rw [c, es, wI_eq, g9]
      · rw [es, wI_i _ _ _ c]; exact hd i (by omega)
    · rw [es, wI_k _ _ _ _ hk]; exact hf k i hk
    · rw [es]; exact h2
theorem m_fill {s : Nat} {k82 : S2 → Int32 → Int32 → Int32 → Int32 → Int32 → Int32 → Int32 → Option (Int32 × S2)} {Q : Int32 × S2 → Prop} {ρ0 : S2} {x1 x3 x4 x5 x6 x8 x9 : Int32} (hs : x1.toInt = (s : Int)) (s6 : s < 6) (h5 : 0 ≤ x5.toInt) (h9 : x9.toInt ≤ 6) (hm : x5.toInt + x9.toInt < 60) (kx : ∀ ρ2 : S2, (∀ i : Nat, (i : Int) < x9.toInt → ρ2.1 34 i = (Int64.toInt32 (ρ0.2 33 (60 * s + (x5.toInt.toNat + 1 + i)))) &&& 255) → (∀ k i : Nat, k ≠ 34 → ρ2.1 k i = ρ0.1 k i) → ρ2.2 = ρ0.2 → Pt Q (fX12_names_197 k82 ρ2 x1 x3 x4 x5 x6 1 x8 x9)) : ∀ (N : Nat) (ρ : S2) (x10 : Int32), 0 ≤ x10.toInt → (∀ i : Nat, (i : Int) < x10.toInt → ρ.1 34 i = (Int64.toInt32 (ρ0.2 33 (60 * s + (x5.toInt.toNat + 1 + i)))) &&& 255) → (∀ k i : Nat, k ≠ 34 → ρ.1 k i = ρ0.1 k i) → ρ.2 = ρ0.2 → Pt Q (fX12_names_150 k82 N ρ x1 x3 x4 x5 x6 1 x8 x9 x10) := by
  have z1 := i_1
  have e60 : (60 : Int32).toInt = 60 := rfl
  intro N
  induction N with
  | zero => intro ρ x10 _ _ _ _; exact pt_none
  | succ N ih =>
    intro ρ x10 h0 hd hf h2
    unfold fX12_names_150
    refine pt_le (fun h => kx ρ (fun i hi => hd i (by omega)) hf h2) (fun h => pt_if (fun c => absurd c (by decide)) (fun _ => ?_))
    have n10 := i32_nat h0
    have m60 := i32_mulL (a := 60) (b := x1) e60 (by omega) (by omega)
    have e1 : (60 * x1 + x5).toInt = 60 * x1.toInt + x5.toInt := by rw [i32_add (by omega) (by omega)]; omega
    have e2 : (60 * x1 + x5 + 1).toInt = 60 * x1.toInt + x5.toInt + 1 := by rw [i32_add (by omega) (by omega)]; omega
    have e3 : (60 * x1 + x5 + 1 + x10).toInt = 60 * x1.toInt + x5.toInt + 1 + x10.toInt := by rw [i32_add (by omega) (by omega)]; omega
    have e4 : (x10 + 1).toInt = x10.toInt + 1 := by rw [i32_add (by omega) (by omega)]; omega
    have n3 := i32_nat (i := 60 * x1 + x5 + 1 + x10) (by omega)
    refine pt_ck (fun _ _ _ => pt_nm (fun v9 e9 => pt_ck (fun _ _ _ => pt_nm (fun s1 es => pt_nm (fun v11 ev => ?_)))))
    rw [ev]
    have g9 : v9 = ρ0.2 33 (60 * s + (x5.toInt.toNat + 1 + x10.toNatClampNeg)) := by
      rw [e9, h2]; exact congrArg (ρ0.2 33) (by omega)
    refine ih s1 (x10 + 1) (by omega) (fun i hi => ?_) (fun k i hk => ?_) ?_
    · by_cases c : i = x10.toNatClampNeg
      · rw [c, es, wI_eq, g9]
      · rw [es, wI_i _ _ _ c]; exact hd i (by omega)
    · rw [es, wI_k _ _ _ _ hk]; exact hf k i hk
    · rw [es]; exact h2
theorem m_197 {k82 : S2 → Int32 → Int32 → Int32 → Int32 → Int32 → Int32 → Int32 → Option (Int32 × S2)} {Q : Int32 × S2 → Prop} {x1 x3 x4 x5 x6 x8 x9 : Int32} (kx : ∀ r7 : Int32, fX12_found ρ x9 = some r7 → (0 ≤ r7 → Pt Q (k82 ρ x1 x3 x4 (x5 + (1 + x9)) x6 1 (x8 + 1))) ∧ (¬ 0 ≤ r7 → ρ.1 0 0 = 40 → Pt Q (k82 ρ x1 x3 x4 (x5 + 0) x6 0 (x8 + 1))) ∧ (¬ 0 ≤ r7 → ρ.1 0 0 ≠ 40 → ∀ (u : Unit) (ρ4 : S2), fX12_comesName ρ x9 = some (u, ρ4) → Pt Q (k82 ρ4 x1 x3 x4 (x5 + (1 + x9)) (x6 + 1) 1 (x8 + 1)))) : Pt Q (fX12_names_197 k82 ρ x1 x3 x4 x5 x6 1 x8 x9) := by
  unfold fX12_names_197
  refine pt_if (fun c => absurd c (by decide)) (fun _ => pt_bi (P := fun r => fX12_found ρ x9 = some r) (fun z hz => hz) (fun r7 h7 => ?_))
  obtain ⟨g1, g2, g3⟩ := kx r7 h7
  refine pt_if (fun c => ?_) (fun c => ?_)
  · unfold fX12_names_215 fX12_names_216
    refine pt_if (fun c2 => absurd c2 (by decide)) (fun _ => pt_if (fun _ => ?_) (fun c2 => absurd rfl c2))
    unfold fX12_names_237 fX12_names_242
    refine pt_if (fun c2 => absurd c2 (by decide)) (fun _ => pt_if (fun _ => ?_) (fun c2 => absurd rfl c2))
    unfold fX12_names_263
    refine pt_if (fun c2 => absurd c2 (by decide)) (fun _ => ?_)
    unfold fX12_names_278
    exact pt_nm (fun v1 e1 => pt_nm (fun v2 e2 => by rw [e1, e2]; exact g1 c))
  · unfold fX12_names_216
    refine pt_if (fun c2 => absurd c2 (by decide)) (fun _ => pt_if (fun c2 => absurd c2 (by decide)) (fun _ => pt_if (fun c40 => ?_) (fun c40 => ?_)))
    · unfold fX12_names_241 fX12_names_242
      refine pt_if (fun _ => ?_) (fun c2 => absurd rfl c2)
      unfold fX12_names_263
      refine pt_if (fun _ => ?_) (fun c2 => absurd rfl c2)
      unfold fX12_names_278
      exact pt_nm (fun v1 e1 => pt_nm (fun v2 e2 => by rw [e1, e2]; exact g2 c c40))
    · unfold fX12_names_237 fX12_names_242
      refine pt_if (fun c2 => absurd c2 (by decide)) (fun _ => pt_if (fun c2 => absurd c2 (by decide)) (fun _ => ?_))
      refine pt_bs (P := fun z => fX12_comesName ρ x9 = some z) (fun z hz => hz) (fun u ρ4 h4 => pt_nm (fun v6 e6 => ?_))
      unfold fX12_names_263
      refine pt_if (fun c2 => absurd c2 (by decide)) (fun _ => ?_)
      unfold fX12_names_278
      exact pt_nm (fun v1 e1 => pt_nm (fun v2 e2 => by rw [e1, e2, e6]; exact g3 c c40 u ρ4 h4))
theorem m_end {Q : Int32 × S2 → Prop} {x1 x3 x4 x5 x6 x8 : Int32} (h : Q (x6, ρ)) : ∀ M : Nat, Pt Q (fX12_names_82 M ρ x1 x3 x4 x5 x6 0 x8) := fun M => by
  cases M with
  | zero => exact pt_none
  | succ M =>
    unfold fX12_names_82
    exact pt_if (fun _ => pt_some h) (fun _ => pt_if (fun _ => pt_some h) (fun c => absurd rfl c))
theorem m_stop150 {k82 : S2 → Int32 → Int32 → Int32 → Int32 → Int32 → Int32 → Int32 → Option (Int32 × S2)} {Q : Int32 × S2 → Prop} {x1 x3 x4 x5 x6 x8 x9 : Int32} (kx : Pt Q (k82 ρ x1 x3 x4 (x5 + 0) x6 0 (x8 + 1))) : ∀ N : Nat, Pt Q (fX12_names_150 k82 N ρ x1 x3 x4 x5 x6 0 x8 x9 0) := fun N => by
  have g : Pt Q (fX12_names_197 k82 ρ x1 x3 x4 x5 x6 0 x8 x9) := by
    unfold fX12_names_197
    refine pt_if (fun _ => ?_) (fun c => absurd rfl c)
    unfold fX12_names_215 fX12_names_216
    refine pt_if (fun _ => ?_) (fun c => absurd rfl c)
    unfold fX12_names_241 fX12_names_242
    refine pt_if (fun _ => ?_) (fun c => absurd rfl c)
    unfold fX12_names_263
    refine pt_if (fun _ => ?_) (fun c => absurd rfl c)
    unfold fX12_names_278
    exact pt_nm (fun v1 e1 => pt_nm (fun v2 e2 => by rw [e1, e2]; exact kx))
  cases N with
  | zero => exact pt_none
  | succ N =>
    unfold fX12_names_150
    exact pt_if (fun _ => g) (fun _ => pt_if (fun _ => g) (fun c => absurd rfl c))
theorem m_stop {k82 : S2 → Int32 → Int32 → Int32 → Int32 → Int32 → Int32 → Int32 → Option (Int32 × S2)} {Q : Int32 × S2 → Prop} {x1 x3 x4 x5 x6 x8 s0 : Int32} (hno : ¬ (1 ≤ s0.toInt ∧ s0.toInt ≤ 6) ∨ (x4.toInt ≤ x5.toInt + s0.toInt ∧ 0 ≤ x5.toInt ∧ x5.toInt ≤ 60)) (kx : Pt Q (k82 ρ x1 x3 x4 (x5 + 0) x6 0 (x8 + 1))) : Pt Q (fX12_names_117 k82 ρ x1 x3 x4 x5 x6 x8 s0) := by
  have z0 := i_0
  have z1 := i_1
  have z6 := i_6
  unfold fX12_names_117 fX12_names_144 fX12_names_145
  refine pt_bi q_in (fun r12 h12 => pt_if (fun _ => m_stop150 kx FU) (fun c => pt_le (fun _ => m_stop150 kx FU) (fun h => ?_)))
  exfalso
  have c : r12.toInt ≠ 0 := fun w => c (Int32.toInt_inj.mp (w.trans z0.symm))
  have e : (x5 + s0).toInt = x5.toInt + s0.toInt := i32_add (by omega) (by omega)
  omega
theorem m_go {k82 : S2 → Int32 → Int32 → Int32 → Int32 → Int32 → Int32 → Int32 → Option (Int32 × S2)} {Q : Int32 × S2 → Prop} {x1 x3 x4 x5 x6 x8 s0 : Int32} (h1 : 1 ≤ s0.toInt) (h6 : s0.toInt ≤ 6) (h5 : 0 ≤ x5.toInt) (h4 : x5.toInt + s0.toInt < x4.toInt) (kx : Pt Q (fX12_names_150 k82 FU ρ x1 x3 x4 x5 x6 1 x8 s0 0)) : Pt Q (fX12_names_117 k82 ρ x1 x3 x4 x5 x6 x8 s0) := by
  have z0 := i_0
  have z1 := i_1
  have z6 := i_6
  have := i32_rng x4
  unfold fX12_names_117 fX12_names_145
  refine pt_bi q_in (fun r12 h12 => pt_if (fun c => ?_) (fun c => pt_le (fun h => ?_) (fun h => kx)))
  · exfalso
    rw [c] at h12; omega
  · exfalso
    have e : (x5 + s0).toInt = x5.toInt + s0.toInt := i32_add (by omega) (by omega)
    omega
theorem names_lp {s : Nat} (s6 : s < 6) {x1 x2 x4 : Int32} (hs : x1.toInt = (s : Int)) (n0 : 0 ≤ x2.toInt) (n1 : x2.toInt ≤ 60) : ∀ (N M : Nat) (σ ρ σ' ρ' : S2) (x5 x6 x7 r q : Int32), RNm σ ρ → IvC 0 τ σ → ElB σ ρ s → 0 ≤ x6.toInt → fX4_addFrom_9 τ (176 + s) 60 N σ x2 x4 x5 x6 x7 = some (r, σ') → fX12_names_82 M ρ x1 x4 x2 x6 x5 1 x7 = some (q, ρ') → r = q ∧ RNm σ' ρ' := by
  have z0 := i_0
  have z1 := i_1
  have z6 := i_6
  have y1 := i_m1
  have e60 : (60 : Int32).toInt = 60 := rfl
  intro N
  induction N with
  | zero => intro M σ ρ σ' ρ' x5 x6 x7 r q _ _ _ _ h; cases h
  | succ N ih =>
    intro M σ ρ σ' ρ' x5 x6 x7 r q hN hI hE h6 h h2
    cases M with
    | zero => cases h2
    | succ M =>
      have b3 : 0 ≤ (σ.1 3 3).toInt ∧ (σ.1 3 3).toInt ≤ 40 := hI.1 3 3
      have key : Pt (fun z : Int32 × S2 => r = z.1 ∧ RNm σ' z.2) (fX12_names_82 (M + 1) ρ x1 x4 x2 x6 x5 1 x7) := by
        unfold fX4_addFrom_9 at h
        unfold fX12_names_82
        by_cases c1 : x4 ≤ x7
        · rw [if_pos c1] at h
          rw [if_pos c1]
          cases h; exact pt_some ⟨rfl, hN⟩
        rw [if_neg c1] at h
        rw [if_neg c1, if_neg (show ¬ (1 : Int32) = 0 by decide)]
        rw [if_neg (show ¬ x6 < 0 from fun w => by have := Int32.lt_iff_toInt_lt.mp w; omega)] at h
        by_cases c2 : x6 < x2
        · have c2' := Int32.lt_iff_toInt_lt.mp c2
          have nx := i32_nat h6
          have m60 := i32_mulL (a := 60) (b := x1) e60 (by omega) (by omega)
          have e1 : (60 * x1 + x6).toInt = 60 * x1.toInt + x6.toInt := by rw [i32_add (by omega) (by omega)]; omega
          have n3 := i32_nat (i := 60 * x1 + x6) (by omega)
          rw [if_pos c2] at h
          rw [if_neg (show ¬ x2 ≤ x6 from fun w => by have := Int32.le_iff_toInt_le.mp w; omega)]
          obtain ⟨_, h⟩ := ckS h
          try dsimp only [nm] at h
          refine pt_ck (fun _ _ _ => pt_nm (fun v14 e14 => ?_))
          obtain ⟨w1, w2, w3⟩ := hE x6.toNatClampNeg (by omega)
          have e14 : v14 = σ.2 (176 + s) x6.toNatClampNeg := by
            rw [e14, ← w1]; exact congrArg (ρ.2 33) (by omega)
          rw [e14]
          generalize σ.2 (176 + s) x6.toNatClampNeg = v at h w2 w3 ⊢
          have ew := i64_32 w2 w3
          have d : (x2 - x6).toInt = x2.toInt - x6.toInt := i32_sub (by omega) (by omega)
          have ed : (Int32.toInt64 (x2 - x6)).toInt = (x2 - x6).toInt := Int32.toInt_toInt64 _
          have q1 := lgc v 1
          have q6 := lgc v 6
          have qd := lgc v (Int32.toInt64 (x2 - x6))
          have l1 : (1 : Int64).toInt = 1 := rfl
          have l6 : (6 : Int64).toInt = 6 := rfl
          by_cases c3 : lg_cmp v 1 < 0
          · rw [if_pos c3] at h
            cases h
            have := q1.1.mp c3
            exact m_stop (Or.inl (by omega)) (m_end ⟨rfl, hN⟩ M)
          rw [if_neg c3] at h
          have c3' : ¬ v.toInt < (1 : Int64).toInt := fun w => c3 (q1.1.mpr w)
          by_cases c4 : 0 < lg_cmp v 6
          · rw [if_pos c4] at h
            cases h
            have := q6.2.mp c4
            exact m_stop (Or.inl (by omega)) (m_end ⟨rfl, hN⟩ M)
          rw [if_neg c4] at h
          have c4' : ¬ (6 : Int64).toInt < v.toInt := fun w => c4 (q6.2.mpr w)
          by_cases c5 : lg_cmp v (Int32.toInt64 (x2 - x6)) < 0
          · rw [if_pos c5] at h
            have c5' := qd.1.mp c5
            generalize Int64.toInt32 v = w at h ew ⊢
            obtain ⟨σ2, hI2, a1, a2, a3, h⟩ := c_fill (Q := fun z => ∃ σ2 : S2, IvC 0 τ σ2 ∧ (∀ i : Nat, (i : Int) < w.toInt → σ2.1 6 i = nbv (σ.2 (176 + s) (x6.toInt.toNat + 1 + i))) ∧ (∀ k i : Nat, k ≠ 6 → σ2.1 k i = σ.1 k i) ∧ σ2.2 = σ.2 ∧ cBody τ (176 + s) 60 (fX4_addFrom_9 τ (176 + s) 60 N) σ2 x2 x4 x5 x6 x7 w = some z) (σ0 := σ) h6 (by omega) (by omega) (fun σ2 x a b c z hz => ⟨σ2, x, a, b, c, hz⟩) FU σ 0 (by decide) hI (fun i hi => absurd hi (by rw [z0]; omega)) (fun _ _ _ => rfl) rfl _ h
            refine m_go (by omega) (by omega) h6 (by omega) (m_fill (ρ0 := ρ) hs s6 h6 (by omega) (by omega) (fun ρ2 b1 b2 b4 => ?_) FU ρ 0 (by decide) (fun i hi => absurd hi (by rw [z0]; omega)) (fun _ _ _ => rfl) rfl)
            have d33 : σ2.1 3 3 = σ.1 3 3 := a2 3 3 (by decide)
            have d00 : ρ2.1 0 0 = ρ.1 0 0 := b2 0 0 (by decide)
            have hN2 : RNm σ2 ρ2 := by
              refine ⟨by rw [d00, d33]; exact hN.1, fun n hn => ?_⟩
              rw [d33] at hn
              rw [a2 5 n (by decide), b2 1 n (by decide)]
              refine ⟨(hN.2 n hn).1, fun k hk => ?_⟩
              rw [a2 (44 + n) k (by omega), b2 2 _ (by decide)]
              exact (hN.2 n hn).2 k hk
            have hE2 : ElB σ2 ρ2 s := fun i hi => by rw [a3, b4]; exact hE i hi
            have hb : ∀ k : Nat, (k : Int) < w.toInt → (-128 ≤ (σ2.1 6 k).toInt ∧ (σ2.1 6 k).toInt ≤ 127) ∧ ρ2.1 34 k = σ2.1 6 k &&& 255 := fun k hk => by
              refine ⟨hI2.1 6 k, ?_⟩
              rw [b1 k hk, a1 k hk, nbv_255, (hE _ (by omega)).1]
            unfold cBody at h
            try dsimp only [nm] at h
            obtain ⟨r3, f3, h⟩ := biS h
            have c40 : 0 ≤ (ρ2.1 0 0).toInt ∧ (ρ2.1 0 0).toInt ≤ 40 := by rw [hN2.1, d33]; exact b3
            have pf := c_find (c1 := 6) (n1 := 6) (x3 := w) hI2 (by omega) FU 0 (by decide) (by decide) (fun n hn => absurd hn (by rw [i_0]; omega)) r3 f3
            have e6w : (x6 + (1 + w)).toInt = x6.toInt + 1 + w.toInt := by
              have e9 : (1 + w).toInt = 1 + w.toInt := by rw [i32_add (by omega) (by omega)]; omega
              rw [i32_add (by omega) (by omega)]; omega
            refine m_197 (fun r7 h7 => ?_)
            have e37 := found_eq (c1 := 6) (n1 := 6) hI2 c40 hN2 (by omega) hb f3 h7
            subst e37
            by_cases c6 : r3 = -1
            · rw [if_pos c6] at h
              have n0 : ¬ (0 : Int32) ≤ r3 := by rw [c6]; decide
              obtain ⟨r5, σ6, f5, h⟩ := bsS h
              have pa := c_add (c1 := 6) (n1 := 6) (len := w) hI2 _ f5
              have hI6 : IvC 0 τ σ6 := by
                obtain ⟨z, hz, p, _⟩ := sX4_add τ 6 6 σ2 0 w hI2 (by decide) (by decide) (by omega) (by omega) (by rw [z0]; omega) ByC.a6
                rw [f5] at hz; cases hz; exact p
              refine ⟨fun c => absurd c n0, fun _ c0 => ?_, fun _ c0 u ρ4 h4 => ?_⟩
              · rcases pa with ⟨w4, w5, _⟩ | ⟨w4, _⟩
                · have e5 : r5 = -1 := Int32.toInt_inj.mp (w5.trans y1.symm)
                  have w4 : σ6 = σ2 := w4
                  rw [if_pos e5] at h
                  cases h
                  rw [w4]
                  exact m_end ⟨rfl, hN2⟩ M
                · exfalso
                  have z40 : (40 : Int32).toInt = 40 := rfl
                  rw [← hN2.1, c0] at w4; omega
              · rcases pa with ⟨_, _, w6⟩ | ⟨w4, w5, w7, w8, w9⟩
                · exfalso
                  have z40 : (40 : Int32).toInt = 40 := rfl
                  rw [← hN2.1] at w6
                  exact c0 (Int32.toInt_inj.mp (by omega))
                · have e5 : ¬ r5 = -1 := fun x => by
                    have w5 : r5 = σ2.1 3 3 := w5
                    rw [← w5, x] at d33
                    rw [← d33] at b3; omega
                  rw [if_neg e5] at h
                  have h : fX4_addFrom_9 τ (176 + s) 60 N σ6 x2 x4 (x5 + 1) (x6 + (1 + w)) (x7 + 1) = some (r, σ') := h
                  have m := m_comes (ρ := ρ2) (len := w) (by have c9 := c40; rw [hN2.1] at c9 ⊢; omega) (by omega) (by omega) _ h4
                  have hN6 := RNm.add hN2 (by rw [d33]; exact b3.1) w4 (by omega) (fun k hk => (hb k hk).2) w7 w8 w9 m.1 m.2.1 m.2.2 (fun n => (hI2.1 5 n).2)
                  have fa := wfX4_add (m := 4) rfl τ 6 6 σ2 0 w (Fr.rf σ2) _ f5
                  have fz := wfX12_comesName (m := 4) rfl ρ2 w (Fr.rf ρ2) _ h4
                  have hE6 : ElB σ6 ρ4 s := fun i hi => by
                    rw [(fa (176 + s) i (by rw [gC_el s6]; rfl)).2, (fz 33 (60 * s + i) (show Nat.testBit 4 22 = false from rfl)).2]; exact hE2 i hi
                  exact fun z hz => ih M σ6 ρ4 σ' z.2 (x5 + 1) (x6 + (1 + w)) (x7 + 1) r z.1 hN6 hI6 hE6 (by omega) h hz
            · rw [if_neg c6] at h
              have n0 : (0 : Int32) ≤ r3 := by
                rcases pf with ⟨w4, _⟩ | ⟨w4, _⟩
                · exact absurd (Int32.toInt_inj.mp (w4.trans y1.symm)) c6
                · exact Int32.le_iff_toInt_le.mpr w4
              have h : fX4_addFrom_9 τ (176 + s) 60 N σ2 x2 x4 x5 (x6 + (1 + w)) (x7 + 1) = some (r, σ') := h
              exact ⟨fun _ z hz => ih M σ2 ρ2 σ' z.2 x5 (x6 + (1 + w)) (x7 + 1) r z.1 hN2 hI2 hE2 (by omega) h hz, fun c => absurd n0 c, fun c => absurd n0 c⟩
          · rw [if_neg c5] at h
            cases h
            have c5' : ¬ v.toInt < (Int32.toInt64 (x2 - x6)).toInt := fun w => c5 (qd.1.mpr w)
            exact m_stop (Or.inr (by omega)) (m_end ⟨rfl, hN⟩ M)
        · rw [if_neg c2] at h
          have c2' : ¬ x6.toInt < x2.toInt := fun w => c2 (Int32.lt_iff_toInt_lt.mpr w)
          rw [if_pos (Int32.le_iff_toInt_le.mpr (by omega))]
          cases h
          exact m_stop (Or.inl (by rw [z0]; omega)) (m_end ⟨rfl, hN⟩ M)
      exact key _ h2
end NAMES2
/-- where a row holds bytes, its elements are bytes -/
def RBy (σ : S2) : Prop := ∀ s i : Nat, s < 6 → i < 60 → σ.1 39 s = 0 → -128 ≤ (σ.2 (176 + s) i).toInt ∧ (σ.2 (176 + s) i).toInt ≤ 127
theorem c_neg {σ : S2} {τ c1 n1 : Nat} {x2 x4 x5 x6 x7 : Int32} (h6 : x6 < 0) : ∀ N : Nat, Pt (fun z : Int32 × S2 => z = (x5, σ)) (fX4_addFrom_9 τ c1 n1 N σ x2 x4 x5 x6 x7) := fun N => by
  cases N with
  | zero => exact pt_none
  | succ N =>
    unfold fX4_addFrom_9
    exact pt_if (fun _ => pt_some rfl) (fun _ => pt_if (fun _ => pt_some rfl) (fun c => absurd h6 c))
theorem m_past {ρ : S2} {Q : Int32 × S2 → Prop} {x1 x3 x4 x5 x6 x8 : Int32} (h4 : x4.toInt ≤ x5.toInt) (h : Q (x6, ρ)) : ∀ M : Nat, Pt Q (fX12_names_82 M ρ x1 x3 x4 x5 x6 1 x8) := fun M => by
  have z0 := i_0
  cases M with
  | zero => exact pt_none
  | succ M =>
    unfold fX12_names_82
    refine pt_if (fun _ => pt_some h) (fun _ => pt_if (fun _ => pt_some h) (fun _ => pt_le (fun _ => m_stop (Or.inl (by rw [z0]; omega)) (m_end h M)) (fun c => ?_)))
    exfalso; omega
theorem st_names0 {σ ρ σ' ρ' : S2} {τ : Nat} {a b n r q : Int32} (hS : RS σ ρ) (hE : RE σ ρ) (hN : RNm σ ρ) (hB : RBy σ) (hI : IvC 0 τ σ) (h : fX11_names τ σ a b n = some (r, σ')) (h2 : fX12_names ρ a b n = some (q, ρ')) : r = q ∧ RNm σ' ρ' := by
  have z0 := i_0
  have z1 := i_1
  have y1 := i_m1
  have z20 : (20 : Int32).toInt = 20 := rfl
  unfold fX11_names fX11_names_0 at h
  unfold fX12_names fX12_names_0 at h2
  obtain ⟨r1, f1, h⟩ := biS h
  have g1 := q_shelf _ f1
  obtain ⟨r15, f15, h2⟩ := biS h2
  have g15 := q_shelfM _ f15
  by_cases ca : r1 = 0
  · rw [if_pos ca] at h
    rw [if_pos (Int32.toInt_inj.mp (by rw [z0]; rw [ca] at g1; omega))] at h2
    cases h; cases h2; exact ⟨rfl, hN⟩
  have ca' : r1.toInt ≠ 0 := fun w => ca (Int32.toInt_inj.mp (w.trans z0.symm))
  have ha : 0 ≤ a.toInt ∧ a.toInt ≤ 5 := by omega
  rw [if_neg ca] at h
  rw [if_neg (fun w => by rw [w] at g15; omega)] at h2
  obtain ⟨r17, f17, h2⟩ := biS h2
  have g17 := q_in _ f17
  by_cases cb : n < 1
  · rw [if_pos cb] at h
    have cb := Int32.lt_iff_toInt_lt.mp cb
    rw [if_pos (Int32.toInt_inj.mp (by rw [z0]; omega))] at h2
    cases h; cases h2; exact ⟨rfl, hN⟩
  rw [if_neg cb] at h
  have cb' : ¬ n.toInt < (1 : Int32).toInt := fun w => cb (Int32.lt_iff_toInt_lt.mpr w)
  by_cases cc : n ≤ 20
  case neg =>
    rw [if_neg cc] at h
    have cc' : ¬ n.toInt ≤ (20 : Int32).toInt := fun w => cc (Int32.le_iff_toInt_le.mpr w)
    rw [if_pos (Int32.toInt_inj.mp (by rw [z0]; omega))] at h2
    cases h; cases h2; exact ⟨rfl, hN⟩
  rw [if_pos cc] at h
  have cc' := Int32.le_iff_toInt_le.mp cc
  rw [if_neg (fun w => by rw [w] at g17; omega)] at h2
  obtain ⟨_, h2⟩ := ckS h2
  try dsimp only [nm] at h2
  have na := i32_nat ha.1
  have k6 : a.toNatClampNeg < 6 := by omega
  obtain ⟨e30, e31, e3, e4⟩ := hS a.toNatClampNeg k6
  have b38 : -1 ≤ (σ.1 38 a.toNatClampNeg).toInt ∧ (σ.1 38 a.toNatClampNeg).toInt ≤ 11 := hI.1 38 _
  have b39 : -1 ≤ (σ.1 39 a.toNatClampNeg).toInt ∧ (σ.1 39 a.toNatClampNeg).toInt ≤ 4 := hI.1 39 _
  have b40 : 0 ≤ (σ.1 40 a.toNatClampNeg).toInt ∧ (σ.1 40 a.toNatClampNeg).toInt ≤ 60 := hI.1 40 _
  obtain ⟨r3, f3, h⟩ := biS h
  have g3 := q_empty _ f3
  rw [e30] at h2
  by_cases c38 : 0 ≤ σ.1 38 a.toNatClampNeg
  · have c38' := Int32.le_iff_toInt_le.mp c38
    rw [if_pos c38] at h2
    have c39 : σ.1 39 a.toNatClampNeg = -1 := by
      by_cases w : σ.1 39 a.toNatClampNeg = -1
      · exact w
      · have := (e3 w).2
        rw [this, y1, z0] at c38'; omega
    rw [if_pos (Int32.toInt_inj.mp (by rw [z0]; omega))] at h
    obtain ⟨r5, f5, h⟩ := biS h
    have g5 := q_isRow _ f5
    rw [c39] at g5
    rw [if_pos (Int32.toInt_inj.mp (by rw [z0]; omega))] at h
    cases h; cases h2; exact ⟨rfl, hN⟩
  have c38' : ¬ (0 : Int32).toInt ≤ (σ.1 38 a.toNatClampNeg).toInt := fun w => c38 (Int32.le_iff_toInt_le.mpr w)
  rw [if_neg c38] at h2
  obtain ⟨_, h2⟩ := ckS h2
  rw [e31] at h2
  by_cases c39 : σ.1 39 a.toNatClampNeg = -1
  · rw [c39, y1] at g3
    rw [if_neg (fun w => by rw [w] at g3; omega)] at h
    rw [c39, if_pos (by decide)] at h2
    obtain ⟨_, h2⟩ := ckS h2
    rw [if_neg (by decide)] at h2
    have key : Pt (fun z : Int32 × S2 => z = (0, ρ)) (fX12_names_59 ρ a b n 0) := by
      unfold fX12_names_59 fX12_names_71
      exact pt_le (fun c => m_past (Q := fun z : Int32 × S2 => z = (0, ρ)) (by omega) rfl FU) (fun _ => m_past (Q := fun z : Int32 × S2 => z = (0, ρ)) (Int.le_refl _) rfl FU)
    have := key _ h2
    cases this; cases h; exact ⟨rfl, hN⟩
  have w39 : (σ.1 39 a.toNatClampNeg).toInt ≠ -1 := fun w => c39 (Int32.toInt_inj.mp (w.trans y1.symm))
  rw [if_pos (Int32.toInt_inj.mp (by rw [z0]; omega))] at h
  obtain ⟨r5, f5, h⟩ := biS h
  have g5 := q_isRow _ f5
  rw [if_neg (fun w => by rw [w] at g5; omega)] at h
  obtain ⟨_, h⟩ := ckS h
  try dsimp only [nm] at h
  by_cases c0 : σ.1 39 a.toNatClampNeg = 0
  · rw [if_pos c0] at h
    obtain ⟨_, h⟩ := ckS h
    obtain ⟨_, h⟩ := ckS h
    try dsimp only [nm] at h
    rw [c0, if_pos (by decide)] at h2
    obtain ⟨_, h2⟩ := ckS h2
    rw [if_pos rfl] at h2
    obtain ⟨_, h2⟩ := ckS h2
    try dsimp only [nm] at h2
    rw [(e3 c39).1] at h2
    obtain ⟨r10, σ11, f10, h⟩ := bsS h
    cases h
    unfold fX4_addFrom fX4_addFrom_0 at f10
    unfold fX12_names_59 fX12_names_71 at h2
    have hEB : ElB σ ρ a.toNatClampNeg := fun i hi => ⟨hE _ i k6 hi, hB _ i k6 hi c0⟩
    by_cases cn : 0 ≤ b
    · rw [if_pos cn] at h2
      exact names_lp k6 (by omega) b40.1 b40.2 FU FU σ ρ _ ρ' 0 b 0 _ q hN hI hEB (by have := Int32.le_iff_toInt_le.mp cn; omega) f10 h2
    · rw [if_neg cn] at h2
      have cn' : ¬ (0 : Int32).toInt ≤ b.toInt := fun w => cn (Int32.le_iff_toInt_le.mpr w)
      have e1 := c_neg (Int32.lt_iff_toInt_lt.mpr (by omega)) FU _ f10
      have e2 := m_past (Q := fun z : Int32 × S2 => z = (0, ρ)) (Int.le_refl _) rfl FU _ h2
      cases e1; cases e2; exact ⟨rfl, hN⟩
  · rw [if_neg c0] at h
    have c0' : (σ.1 39 a.toNatClampNeg).toInt ≠ 0 := fun w => c0 (Int32.toInt_inj.mp (w.trans z0.symm))
    rw [if_neg (fun w => by have := Int32.le_iff_toInt_le.mp w; omega)] at h2
    cases h; cases h2; exact ⟨rfl, hN⟩
