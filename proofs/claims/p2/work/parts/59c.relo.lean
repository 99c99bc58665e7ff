/-! a name comes; name and number -/
section NAMES
variable {σ ρ : S2} {τ : Nat}
theorem c_add {c1 n1 : Nat} {len : Int32} (hI : IvC 0 τ σ) : Pt (fun z => (z.2 = σ ∧ z.1.toInt = -1 ∧ 40 ≤ (σ.1 3 3).toInt) ∨ ((σ.1 3 3).toInt < 40 ∧ z.1 = σ.1 3 3 ∧ z.2.1 3 3 = σ.1 3 3 + 1 ∧ (∀ i : Nat, z.2.1 5 i = if i = (σ.1 3 3).toNatClampNeg then len else σ.1 5 i) ∧ ∀ n k : Nat, n < 40 → z.2.1 (44 + n) k = if n = (σ.1 3 3).toNatClampNeg ∧ (k : Int) < len.toInt then σ.1 c1 k else σ.1 (44 + n) k)) (fX4_add τ c1 n1 σ 0 len) := by
  have z40 : (40 : Int32).toInt = 40 := rfl
  have y1 := i_m1
  have b3 : 0 ≤ (σ.1 3 3).toInt ∧ (σ.1 3 3).toInt ≤ 40 := hI.1 3 3
  have n3 := i32_nat b3.1
  unfold fX4_add fX4_add_0
  refine pt_lt (fun h => ?_) (fun h => pt_some (Or.inl ⟨rfl, y1, by omega⟩))
  refine pt_ck (fun _ _ _ => pt_cp (fun hc => pt_nm (fun s1 e1 => pt_ck (fun _ _ _ => pt_nm (fun s2 e2 => pt_nm (fun s3 e3 => ?_))))))
  have hl : 0 ≤ len.toInt := by
    by_cases q : len.toInt < 0
    · exact absurd (Int32.lt_iff_toInt_lt.mpr (by rw [i_0]; exact q)) hc.2.2.1
    · omega
  have nl := i32_nat hl
  have a3 : s1.1 3 3 = σ.1 3 3 := by
    rw [e1]
    exact congrFun (show (if 3 = 44 + (σ.1 3 3).toNatClampNeg then _ else σ.1 3) = σ.1 3 from if_neg (by omega)) 3
  have a5 : ∀ i : Nat, s1.1 5 i = σ.1 5 i := fun i => by
    rw [e1]
    exact congrFun (show (if 5 = 44 + (σ.1 3 3).toNatClampNeg then _ else σ.1 5) = σ.1 5 from if_neg (by omega)) i
  have ag : ∀ n k : Nat, s1.1 (44 + n) k = if n = (σ.1 3 3).toNatClampNeg ∧ (k : Int) < len.toInt then σ.1 c1 k else σ.1 (44 + n) k := fun n k => by
    rw [e1]
    show (if 44 + n = 44 + (σ.1 3 3).toNatClampNeg then va_cpy (σ.1 c1) (σ.1 (44 + (σ.1 3 3).toNatClampNeg)) (Int32.toNatClampNeg 0) (Int32.toNatClampNeg 0) len.toNatClampNeg else σ.1 (44 + n)) k = _
    by_cases c : n = (σ.1 3 3).toNatClampNeg
    · rw [if_pos (by omega)]
      show (if 0 ≤ k ∧ k < 0 + len.toNatClampNeg then σ.1 c1 (0 + (k - 0)) else σ.1 (44 + (σ.1 3 3).toNatClampNeg) k) = _
      by_cases c2 : (k : Int) < len.toInt
      · rw [if_pos (by omega), if_pos ⟨c, c2⟩, show 0 + (k - 0) = k by omega]
      · rw [if_neg (by omega), if_neg (fun w => c2 w.2), c]
    · rw [if_neg (by omega), if_neg (fun w => c w.1)]
  rw [a3] at e2
  subst e2; subst e3
  refine pt_some (Or.inr ⟨by omega, ?_, ?_, fun i => ?_, fun n k hn => ?_⟩)
  · show s1.1 3 3 + 1 - 1 = σ.1 3 3
    rw [a3]; exact Int32.add_sub_cancel _ _
  · show s1.1 3 3 + 1 = σ.1 3 3 + 1
    rw [a3]
  · show (if i = (σ.1 3 3).toNatClampNeg then len else s1.1 5 i) = _
    rw [a5]
  · show (if 44 + n = 3 then _ else if 44 + n = 5 then _ else s1.1 (44 + n)) k = _
    rw [if_neg (by omega), if_neg (by omega)]; exact ag n k
theorem gC_nm {n k : Nat} (h : n < 40) : gC (44 + n) k = 2 := by
  unfold gC
  rw [if_neg (by omega), if_pos (by omega)]
theorem RNm.fr {σ' ρ' : S2} {a b : Nat} (h : RNm σ ρ) (h40 : (σ.1 3 3).toInt ≤ 40) (hc : Fr gC a σ σ') (hm : Fr gM b ρ ρ') (e : a.testBit 2 = false) (f : b.testBit 2 = false) : RNm σ' ρ' := by
  have c := hc.at 3 3 2 rfl e
  refine ⟨by rw [c, hm.at 0 0 2 rfl f]; exact h.1, fun n hn => ?_⟩
  rw [c] at hn
  rw [hc.at 5 n 2 rfl e, hm.at 1 n 2 rfl f]
  refine ⟨(h.2 n hn).1, fun k hk => ?_⟩
  rw [hc.at (44 + n) k 2 (gC_nm (by omega)) e, hm.at 2 _ 2 rfl f]
  exact (h.2 n hn).2 k hk
theorem m_comes_12 {len : Int32} (h1 : 0 ≤ len.toInt) (h6 : len.toInt ≤ 6) {cnt : Int32} (hc : 0 ≤ cnt.toInt ∧ cnt.toInt ≤ 39) {σ0 : S2} : ∀ (N : Nat) (σ : S2) (x2 : Int32), 0 ≤ x2.toInt → x2.toInt ≤ len.toInt → σ.1 0 0 = cnt → Fr gM 4 σ0 σ → (∀ i : Nat, σ.1 1 i = σ0.1 1 i) → (∀ i : Nat, σ.1 2 i = if 6 * cnt.toInt ≤ (i : Int) ∧ (i : Int) < 6 * cnt.toInt + x2.toInt then σ0.1 34 ((i : Int) - 6 * cnt.toInt).toNat else σ0.1 2 i) → Pt (fun z : Unit × S2 => z.2.1 0 0 = cnt + 1 ∧ (∀ i : Nat, z.2.1 1 i = σ0.1 1 i) ∧ ∀ i : Nat, z.2.1 2 i = if 6 * cnt.toInt ≤ (i : Int) ∧ (i : Int) < 6 * cnt.toInt + len.toInt then σ0.1 34 ((i : Int) - 6 * cnt.toInt).toNat else σ0.1 2 i) (fX12_comesName_12 N σ len x2) := by
  have z1 := i_1
  have e6 : (6 : Int32).toInt = 6 := rfl
  intro N
  induction N with
  | zero => intro σ x2 _ _ _ _ _ _; exact pt_none
  | succ N ih =>
    intro σ x2 h0 hx hn hf h1' h2'
    have nx := i32_nat h0
    unfold fX12_comesName_12
    refine pt_le (fun h => pt_nm (fun s e => ?_)) (fun h => ?_)
    · subst e
      refine pt_some ⟨?_, fun i => h1' i, fun i => ?_⟩
      · show σ.1 0 0 + 1 = cnt + 1
        rw [hn]
      · show σ.1 2 i = _
        rw [h2' i, show x2.toInt = len.toInt by omega]
    · rw [hn]
      have m6 := i32_mulL (a := 6) (b := cnt) e6 (by omega) (by omega)
      have ix : (6 * cnt + x2).toInt = 6 * cnt.toInt + x2.toInt := by rw [i32_add (by omega) (by omega)]; omega
      have nix := i32_nat (i := 6 * cnt + x2) (by omega)
      have e4 : (x2 + 1).toInt = x2.toInt + 1 := by rw [i32_add (by omega) (by omega)]; omega
      refine pt_ck (fun _ _ _ => pt_nm (fun v e => pt_ck (fun _ _ _ => pt_nm (fun s1 e1 => pt_nm (fun v2 e2 => ?_)))))
      subst e1; subst e2
      have ev : v = σ0.1 34 x2.toNatClampNeg := by rw [e]; exact hf.at 34 _ 0 rfl rfl
      refine ih _ (x2 + 1) (by omega) (by omega) hn (Fr.wI (k := 2) hf (show Nat.testBit 4 2 = true from rfl)) h1' (fun i => ?_)
      show (if i = (6 * cnt + x2).toNatClampNeg then v else σ.1 2 i) = _
      by_cases c : i = (6 * cnt + x2).toNatClampNeg
      · rw [if_pos c, if_pos (by omega), ev]
        exact congrArg (σ0.1 34) (by omega)
      · rw [if_neg c, h2' i]
        by_cases c2 : 6 * cnt.toInt ≤ (i : Int) ∧ (i : Int) < 6 * cnt.toInt + x2.toInt
        · rw [if_pos c2, if_pos (by omega)]
        · rw [if_neg c2, if_neg (by omega)]
theorem m_comes {len : Int32} (hc : 0 ≤ (ρ.1 0 0).toInt ∧ (ρ.1 0 0).toInt ≤ 39) (h1 : 0 ≤ len.toInt) (h6 : len.toInt ≤ 6) : Pt (fun z : Unit × S2 => z.2.1 0 0 = ρ.1 0 0 + 1 ∧ (∀ i : Nat, z.2.1 1 i = if i = (ρ.1 0 0).toNatClampNeg then len else ρ.1 1 i) ∧ ∀ i : Nat, z.2.1 2 i = if 6 * (ρ.1 0 0).toInt ≤ (i : Int) ∧ (i : Int) < 6 * (ρ.1 0 0).toInt + len.toInt then ρ.1 34 ((i : Int) - 6 * (ρ.1 0 0).toInt).toNat else ρ.1 2 i) (fX12_comesName ρ len) := by
  unfold fX12_comesName fX12_comesName_0
  refine pt_ck (fun _ _ _ => pt_nm (fun s1 e1 => ?_))
  subst e1
  refine m_comes_12 (σ0 := ux_wI ρ 1 (ρ.1 0 0).toNatClampNeg len) (cnt := ρ.1 0 0) h1 h6 hc FU _ 0 (by decide) (by rw [i_0]; exact h1) rfl (Fr.rf _) (fun i => rfl) (fun i => ?_)
  rw [i_0, if_neg (by omega)]
/-- a name comes to both sides -/
theorem RNm.add {σ' ρ' : S2} {len : Int32} {c1 : Nat} (hN : RNm σ ρ) (h0 : 0 ≤ (σ.1 3 3).toInt) (h39 : (σ.1 3 3).toInt < 40) (h6 : len.toInt ≤ 6) (hb : ∀ k : Nat, (k : Int) < len.toInt → ρ.1 34 k = σ.1 c1 k &&& 255)
    (a1 : σ'.1 3 3 = σ.1 3 3 + 1) (a2 : ∀ i : Nat, σ'.1 5 i = if i = (σ.1 3 3).toNatClampNeg then len else σ.1 5 i) (a3 : ∀ n k : Nat, n < 40 → σ'.1 (44 + n) k = if n = (σ.1 3 3).toNatClampNeg ∧ (k : Int) < len.toInt then σ.1 c1 k else σ.1 (44 + n) k)
    (m1 : ρ'.1 0 0 = ρ.1 0 0 + 1) (m2 : ∀ i : Nat, ρ'.1 1 i = if i = (ρ.1 0 0).toNatClampNeg then len else ρ.1 1 i) (m3 : ∀ i : Nat, ρ'.1 2 i = if 6 * (ρ.1 0 0).toInt ≤ (i : Int) ∧ (i : Int) < 6 * (ρ.1 0 0).toInt + len.toInt then ρ.1 34 ((i : Int) - 6 * (ρ.1 0 0).toInt).toNat else ρ.1 2 i) (hs : ∀ n : Nat, (σ.1 5 n).toInt ≤ 6) : RNm σ' ρ' := by
  have z1 := i_1
  have e1 : (σ.1 3 3 + 1).toInt = (σ.1 3 3).toInt + 1 := by rw [i32_add (by omega) (by omega)]; omega
  have n3 := i32_nat h0
  rw [hN.1] at m1 m2 m3
  refine ⟨by rw [a1, m1], fun n hn => ?_⟩
  rw [a1, e1] at hn
  rw [a2 n, m2 n]
  by_cases c : n = (σ.1 3 3).toNatClampNeg
  · rw [if_pos c, if_pos c]
    refine ⟨rfl, fun k hk => ?_⟩
    rw [a3 n k (by omega), if_pos ⟨c, hk⟩, m3, if_pos (by omega), ← hb k hk]
    exact congrArg (ρ.1 34) (by omega)
  · rw [if_neg c, if_neg c]
    obtain ⟨q1, q2⟩ := hN.2 n (by omega)
    refine ⟨q1, fun k hk => ?_⟩
    have := hs n
    rw [a3 n k (by omega), if_neg (fun w => c w.1), m3, if_neg (by omega)]
    exact q2 k hk
theorem m_name_17 {σ0 : S2} (h6 : (σ0.1 0 22).toInt ≤ 6) {Q : Int32 × S2 → Prop} (kx : ∀ σ : S2, Fr gM 1 σ0 σ → (∀ k : Nat, (k : Int) < (σ0.1 0 22).toInt → σ.1 34 k = σ0.1 19 k) → Pt Q (bi (fX12_found σ (σ.1 0 22)) (fun r6 => if 0 ≤ r6 then fX12_name_68 σ r6 else if (σ.1 0 0) = 40 then some ((-3), σ) else fX12_name_68 σ r6))) : ∀ (N : Nat) (σ : S2) (x1 : Int32), 0 ≤ x1.toInt → x1.toInt ≤ 6 → Fr gM 1 σ0 σ → (∀ k : Nat, (k : Int) < x1.toInt → σ.1 34 k = σ0.1 19 k) → Pt Q (fX12_name_17 N σ x1) := by
  have z1 := i_1
  intro N
  induction N with
  | zero => intro σ x1 _ _ _ _; exact pt_none
  | succ N ih =>
    intro σ x1 h0 hx hf hk
    have nx := i32_nat h0
    have e22 : σ.1 0 22 = σ0.1 0 22 := (hf 0 22 rfl).1
    unfold fX12_name_17
    refine pt_le (fun h => kx σ hf (fun k hk2 => hk k (by rw [e22] at h; omega))) (fun h => ?_)
    have e4 : (x1 + 1).toInt = x1.toInt + 1 := by rw [i32_add (by omega) (by omega)]; omega
    refine pt_ck (fun _ _ _ => pt_nm (fun v e => pt_ck (fun _ _ _ => pt_nm (fun s1 e1 => pt_nm (fun v2 e2 => ?_)))))
    subst e1; subst e2
    rw [e22] at h
    refine ih _ (x1 + 1) (by omega) (by omega) (Fr.wI (k := 34) hf (show Nat.testBit 1 0 = true from rfl)) (fun k hk2 => ?_)
    show (if k = x1.toNatClampNeg then v else σ.1 34 k) = _
    by_cases c : k = x1.toNatClampNeg
    · rw [if_pos c, e, c]; exact hf.at 19 _ 1 rfl rfl
    · rw [if_neg c]; exact hk k (by omega)
end NAMES
theorem st_name0 {σ ρ σ' ρ' : S2} {τ : Nat} {r q : Int32} (hR : RTp σ ρ) (hN : RNm σ ρ) (hI : IvC 0 τ σ) (hM : IvM 0 ρ) (h : fX11_name τ σ = some (r, σ')) (h2 : fX12_name ρ = some (q, ρ')) : r = q ∧ RTp σ' ρ' ∧ RNm σ' ρ' := by
  have z0 := i_0
  have z1 := i_1
  have z6 := i_6
  have y1 := i_m1
  have b1 : 0 ≤ (σ.1 1 1).toInt ∧ (σ.1 1 1).toInt ≤ 80 := hI.1 1 1
  have b3 : 0 ≤ (σ.1 3 3).toInt ∧ (σ.1 3 3).toInt ≤ 40 := hI.1 3 3
  have fc := wfX11_name (m := 6) rfl τ σ (Fr.rf σ) _ h
  have fm := wfX12_name (m := 7) rfl ρ (Fr.rf ρ) _ h2
  unfold fX11_name fX11_name_0 at h
  unfold fX12_name fX12_name_0 at h2
  obtain ⟨r11, e11, h2⟩ := biS h2
  have e11 := q_in _ e11
  rw [hR.1] at e11
  by_cases c1 : σ.1 1 1 < 1
  · rw [if_pos c1] at h
    have c1 := Int32.lt_iff_toInt_lt.mp c1
    rw [if_pos (Int32.toInt_inj.mp (by rw [z0]; omega))] at h2
    cases h; cases h2; exact ⟨rfl, hR, hN⟩
  rw [if_neg c1] at h
  have c1' : ¬ (σ.1 1 1).toInt < (1 : Int32).toInt := fun w => c1 (Int32.lt_iff_toInt_lt.mpr w)
  by_cases c2 : σ.1 1 1 ≤ 6
  · rw [if_pos c2] at h
    have c2 := Int32.le_iff_toInt_le.mp c2
    rw [if_neg (fun w => by rw [w] at e11; omega)] at h2
    have key : Pt (fun z : Int32 × S2 => r = z.1 ∧ RTp σ' z.2 ∧ RNm σ' z.2) (fX12_name_17 FU ρ 0) := by
      refine m_name_17 (σ0 := ρ) (by rw [hR.1]; omega) (fun ρ1 hf hk => ?_) FU ρ 0 (by decide) (by decide) (Fr.rf _) (fun k hk => absurd hk (by rw [z0]; omega))
      have e22 : ρ1.1 0 22 = σ.1 1 1 := ((hf 0 22 rfl).1).trans hR.1
      have e00 : ρ1.1 0 0 = σ.1 3 3 := ((hf 0 0 rfl).1).trans hN.1
      have hN1 : RNm σ ρ1 := ⟨e00, fun n hn => ⟨(hf.at 1 n 2 rfl rfl).trans (hN.2 n hn).1, fun k hk => (hf.at 2 _ 2 rfl rfl).trans ((hN.2 n hn).2 k hk)⟩⟩
      have hb : ∀ k : Nat, (k : Int) < (σ.1 1 1).toInt → (-128 ≤ (σ.1 2 k).toInt ∧ (σ.1 2 k).toInt ≤ 127) ∧ ρ1.1 34 k = σ.1 2 k &&& 255 := fun k hk2 => ⟨hI.1 2 k, (hk k (by rw [hR.1]; exact hk2)).trans (hR.2 k)⟩
      have t2 : ∀ i : Nat, ρ1.1 19 i = σ.1 2 i &&& 255 := fun i => (hf.at 19 i 1 rfl rfl).trans (hR.2 i)
      rw [e22]
      obtain ⟨r2, e2, h⟩ := biS h
      refine pt_bi (P := fun x => r2 = x) (fun x hx => ?_) (fun x hx => ?_)
      · have hM1 : 0 ≤ (ρ1.1 0 0).toInt ∧ (ρ1.1 0 0).toInt ≤ 40 := by rw [e00]; exact b3
        have p1 := c_find (c1 := 2) (n1 := 80) hI (by omega) FU 0 (by decide) (by decide) (fun n hn => absurd hn (by rw [i_0]; omega)) r2 e2
        have p2 := m_foundB hM1 (x1 := σ.1 1 1) (by omega) FU 0 (by decide) (by decide) (fun n hn => absurd hn (by rw [i_0]; omega)) x hx
        rw [e00] at p2
        exact LeastN.uniq p1 p2 (fun n hn => nm_iff hI hN1 hb hn)
      · subst hx
        have p1 := c_find (c1 := 2) (n1 := 80) hI (by omega) FU 0 (by decide) (by decide) (fun n hn => absurd hn (by rw [i_0]; omega)) r2 e2
        have fin : ∀ (ρ2 : S2) (v : Int32) (σ2 : S2), σ' = ux_wI σ2 1 1 0 → r = v → RNm σ2 ρ2 → (σ2.1 3 3).toInt ≤ 40 → (∀ i : Nat, ρ2.1 19 i = σ2.1 2 i &&& 255) → Pt (fun z : Int32 × S2 => r = z.1 ∧ RTp σ' z.2 ∧ RNm σ' z.2) (fX12_name_85 ρ2 v) := fun ρ2 v σ2 es er hN2 h40 ht => by
          unfold fX12_name_85
          refine pt_nm (fun s e => ?_)
          subst e
          refine pt_some ⟨er, ⟨by rw [es]; rfl, fun i => by rw [es]; exact ht i⟩, ?_⟩
          rw [es]
          exact hN2.fr (a := 2) (b := 2) h40 (Fr.wI (Fr.rf _) rfl) (Fr.wI (Fr.rf _) rfl) rfl rfl
        by_cases c3 : r2 = -1
        · rw [if_pos c3] at h
          have n0 : ¬ (0 : Int32) ≤ r2 := by rw [c3]; decide
          rw [if_neg n0, e00]
          by_cases c4 : σ.1 3 3 < 40
          · rw [if_pos c4] at h
            have c4 := Int32.lt_iff_toInt_lt.mp c4
            have z40 : (40 : Int32).toInt = 40 := rfl
            rw [if_neg (fun w => by rw [w] at c4; exact absurd c4 (by decide))]
            obtain ⟨r4, σ5, h5, h⟩ := bsS h
            have h : some (r4, ux_wI σ5 1 1 0) = some (r, σ') := h
            cases h
            have fa := wfX4_add (m := 4) rfl τ 2 80 σ 0 (σ.1 1 1) (Fr.rf σ) _ h5
            have p5 := c_add (c1 := 2) (n1 := 80) (len := σ.1 1 1) hI _ h5
            rcases p5 with ⟨_, _, w⟩ | ⟨w1, w2, w3, w4, w5⟩
            · exact absurd w (by omega)
            · unfold fX12_name_68
              rw [if_neg n0, e00, e22]
              refine pt_nm (fun v2 ev => ?_)
              refine pt_bs (P := fun z : Unit × S2 => RNm σ5 z.2 ∧ ∀ i : Nat, z.2.1 19 i = σ5.1 2 i &&& 255) (fun z hz => ?_) (fun u ρ2 hz => fin ρ2 v2 σ5 rfl (by rw [ev]; exact w2) hz.1 (by rw [w3, i32_add (by omega) (by omega)]; omega) hz.2)
              have fz := wfX12_comesName (m := 4) rfl ρ1 (σ.1 1 1) (Fr.rf ρ1) _ hz
              have p6 := m_comes (ρ := ρ1) (len := σ.1 1 1) (by rw [e00]; omega) (by omega) (by omega) _ hz
              exact ⟨RNm.add hN1 b3.1 w1 (by omega) (fun k hk => (hb k hk).2) w3 w4 w5 p6.1 p6.2.1 p6.2.2 (fun n => (hI.1 5 n).2), fun i => by rw [fz.at 19 i 1 rfl rfl, fa.at 2 i 1 rfl rfl]; exact t2 i⟩
          · rw [if_neg c4] at h
            have c4' : ¬ (σ.1 3 3).toInt < (40 : Int32).toInt := fun w => c4 (Int32.lt_iff_toInt_lt.mpr w)
            have z40 : (40 : Int32).toInt = 40 := rfl
            rw [if_pos (Int32.toInt_inj.mp (by rw [z40]; omega))]
            cases h
            exact pt_some ⟨rfl, ⟨e22, t2⟩, hN1⟩
        · rw [if_neg c3] at h
          have n0 : (0 : Int32) ≤ r2 := by
            rcases p1 with ⟨w, _⟩ | ⟨w, _⟩
            · exact absurd (Int32.toInt_inj.mp (w.trans y1.symm)) c3
            · exact Int32.le_iff_toInt_le.mpr w
          rw [if_pos n0]
          unfold fX12_name_68
          rw [if_pos n0]
          have h : some (r2, ux_wI σ 1 1 0) = some (r, σ') := h
          cases h
          exact fin ρ1 _ σ rfl rfl hN1 b3.2 t2
    have := key _ h2
    exact this
  · rw [if_neg c2] at h
    have c2' : ¬ (σ.1 1 1).toInt ≤ (6 : Int32).toInt := fun w => c2 (Int32.le_iff_toInt_le.mpr w)
    rw [if_pos (Int32.toInt_inj.mp (by rw [z0]; omega))] at h2
    cases h; cases h2; exact ⟨rfl, hR, hN⟩
theorem place_lp {σ ρ : S2} {τ : Nat} {x1 : Int32} (hN : RNm σ ρ) (hs : ∀ n : Nat, (σ.1 5 n).toInt ≤ 6) (h0 : 0 ≤ x1.toInt) (h1 : x1.toInt < (σ.1 3 3).toInt) (h39 : (σ.1 3 3).toInt ≤ 40) : ∀ (N M : Nat) (x3 x4 r q : Int32), 0 ≤ x4.toInt → x4.toInt ≤ 6 → fX4_placeOf_5 τ N σ x1 x3 x4 = some r → fX12_numberOf_5 M ρ x1 x3 x4 = some q → r = q := by
  have z1 := i_1
  have e6 : (6 : Int32).toInt = 6 := rfl
  have n1 := i32_nat h0
  obtain ⟨q1, q2⟩ := hN.2 x1.toNatClampNeg (by omega)
  have h5 := hs x1.toNatClampNeg
  intro N
  induction N with
  | zero => intro M x3 x4 r q _ _ h; cases h
  | succ N ih =>
    intro M x3 x4 r q g0 g6 h h2
    cases M with
    | zero => cases h2
    | succ M =>
      have n4 := i32_nat g0
      unfold fX4_placeOf_5 at h
      unfold fX12_numberOf_5 at h2
      obtain ⟨_, h⟩ := ckS h
      obtain ⟨_, h2⟩ := ckS h2
      rw [q1] at h2
      have h : (if σ.1 5 x1.toNatClampNeg ≤ x4 then _ else _) = some r := h
      have h2 : (if σ.1 5 x1.toNatClampNeg ≤ x4 then _ else _) = some q := h2
      by_cases c : σ.1 5 x1.toNatClampNeg ≤ x4
      · rw [if_pos c] at h h2
        rw [h] at h2; cases h2; rfl
      rw [if_neg c] at h h2
      have c' : ¬ (σ.1 5 x1.toNatClampNeg).toInt ≤ x4.toInt := fun w => c (Int32.le_iff_toInt_le.mpr w)
      have m6 := i32_mulL (a := 6) (b := x1) e6 (by omega) (by omega)
      have ix : (6 * x1 + x4).toInt = 6 * x1.toInt + x4.toInt := by rw [i32_add (by omega) (by omega)]; omega
      have nix := i32_nat (i := 6 * x1 + x4) (by omega)
      obtain ⟨_, h⟩ := ckS h
      obtain ⟨_, h⟩ := ckS h
      obtain ⟨_, h2⟩ := ckS h2
      have e2 : ρ.1 2 (6 * x1 + x4).toNatClampNeg = σ.1 (44 + x1.toNatClampNeg) x4.toNatClampNeg &&& 255 := by
        rw [show (6 * x1 + x4).toNatClampNeg = 6 * x1.toNatClampNeg + x4.toNatClampNeg by omega]
        exact q2 _ (by omega)
      rw [e2] at h2
      have e4 : (x4 + 1).toInt = x4.toInt + 1 := by rw [i32_add (by omega) (by omega)]; omega
      exact ih M ((x3 ^^^ (σ.1 (44 + x1.toNatClampNeg) x4.toNatClampNeg &&& 255)) * 16777619) (x4 + 1) r q (by omega) (by omega) h h2
theorem place_eq {σ ρ : S2} {τ : Nat} {a z r q : Int32} (hN : RNm σ ρ) (hI : IvC 0 τ σ) (h0 : 0 ≤ a.toInt) (h1 : a.toInt < (σ.1 3 3).toInt) (h : fX4_placeOf τ σ a z = some r) (h2 : fX12_numberOf ρ a z = some q) : r = q := by
  have b3 : 0 ≤ (σ.1 3 3).toInt ∧ (σ.1 3 3).toInt ≤ 40 := hI.1 3 3
  exact place_lp hN (fun n => (hI.1 5 n).2) h0 h1 b3.2 FU FU z 0 r q (by decide) (by decide) h h2
theorem q_hasN {τ : Nat} {σ : S2} {a : Int32} : Pt (fun r => (r.toInt = 0 ∧ ¬ (0 ≤ a.toInt ∧ a.toInt < (σ.1 3 3).toInt)) ∨ (r.toInt = 1 ∧ 0 ≤ a.toInt ∧ a.toInt < (σ.1 3 3).toInt)) (fX4_has τ σ a) := by
  have z0 := i_0
  have z1 := i_1
  unfold fX4_has fX4_has_0
  refine pt_lt (fun h => pt_some ?_) (fun h => pt_le (fun h2 => pt_some ?_) (fun h2 => pt_some ?_))
  · rw [z0]; omega
  · rw [z0]; omega
  · rw [z1]; omega
theorem q_nameM {ρ : S2} {a : Int32} (hM : IvM 0 ρ) : Pt (fun r => (r.toInt = 0 ∧ ¬ (0 ≤ a.toInt ∧ a.toInt < (ρ.1 0 0).toInt)) ∨ (r.toInt = 1 ∧ 0 ≤ a.toInt ∧ a.toInt < (ρ.1 0 0).toInt)) (fX12_isName ρ a) := by
  have z0 := i_0
  have z1 := i_1
  have b : 0 ≤ (ρ.1 0 0).toInt ∧ (ρ.1 0 0).toInt ≤ 40 := hM.1 0 0
  have e : ((ρ.1 0 0) - 1).toInt = (ρ.1 0 0).toInt - 1 := by rw [i32_sub (by omega) (by omega)]; omega
  unfold fX12_isName fX12_isName_0
  refine pt_bi q_in (fun r h => pt_zb (pt_some ?_))
  omega
theorem an_number {σ ρ : S2} {τ : Nat} {a z r q : Int32} (hN : RNm σ ρ) (hI : IvC 0 τ σ) (hM : IvM 0 ρ) (h : fX11_number τ σ a z = some r) (h2 : fX12_number ρ a z = some q) : r = q := by
  have z0 := i_0
  unfold fX11_number fX11_number_0 at h
  unfold fX12_number fX12_number_0 at h2
  obtain ⟨r1, e1, h⟩ := biS h
  obtain ⟨r2, e2, h2⟩ := biS h2
  have e1 := q_hasN _ e1
  have e2 := q_nameM hM _ e2
  rw [hN.1] at e2
  by_cases c1 : r1 = 0
  · have c1' : r1.toInt = 0 := by rw [c1]; rfl
    rw [if_pos c1] at h
    rw [if_pos (Int32.toInt_inj.mp (by rw [z0]; omega))] at h2
    cases h; cases h2; rfl
  · have c1' : r1.toInt ≠ 0 := fun w => c1 (Int32.toInt_inj.mp w)
    rw [if_neg c1] at h
    rw [if_neg (fun w => by rw [w] at e2; omega)] at h2
    obtain ⟨v1, f1, h⟩ := biS h
    obtain ⟨v2, f2, h2⟩ := biS h2
    cases h; cases h2
    exact place_eq hN hI (by omega) (by omega) f1 f2
