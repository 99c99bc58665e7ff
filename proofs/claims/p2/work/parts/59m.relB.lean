/-! relation B: relation A, tape, names, tables' count, tables known, turnings; rows of bytes hold bytes -/
def RKn (σ ρ : S2) : Prop := ∀ i : Nat, i < 12 → ((i : Int) < (σ.1 7 5).toInt → ρ.1 6 i = σ.1 11 i) ∧ ((σ.1 7 5).toInt ≤ (i : Int) → ρ.1 6 i = -1)
def RTu (σ ρ : S2) : Prop := ρ.1 0 34 = σ.1 32 1 ∧ ∀ i : Nat, (i : Int) < (σ.1 32 1).toInt → ρ.1 28 i = σ.1 33 i
def RelB (σ ρ : S2) : Prop := RelA σ ρ ∧ RTp σ ρ ∧ RNm σ ρ ∧ ρ.1 0 9 = σ.1 0 6 ∧ RKn σ ρ ∧ RTu σ ρ ∧ RBy σ
section FRB
variable {σ ρ σ' ρ' : S2} {a b τ : Nat}
theorem RTp.fr (h : RTp σ ρ) (hc : Fr gC a σ σ') (hm : Fr gM b ρ ρ') (e : a.testBit 1 = false) (f : b.testBit 1 = false) : RTp σ' ρ' := by
  refine ⟨?_, fun i => ?_⟩
  · rw [(hc 1 1 e).1, (hm 0 22 f).1]; exact h.1
  · rw [(hc 2 i e).1, (hm 19 i f).1]; exact h.2 i
theorem RKn.fr (h : RKn σ ρ) (hc : Fr gC a σ σ') (hm : Fr gM b ρ ρ') (e3 : a.testBit 3 = false) (e : a.testBit 7 = false) (f : b.testBit 7 = false) : RKn σ' ρ' := fun i hi => by
  rw [(hc 7 5 e3).1, (hc 11 i e).1, (hm 6 i f).1]; exact h i hi
theorem RTu.fr (h : RTu σ ρ) (hc : Fr gC a σ σ') (hm : Fr gM b ρ ρ') (e : a.testBit 18 = false) (f : b.testBit 18 = false) : RTu σ' ρ' := by
  refine ⟨?_, fun i hi => ?_⟩
  · rw [(hc 32 1 e).1, (hm 0 34 f).1]; exact h.1
  · rw [(hc 32 1 e).1] at hi
    rw [(hc 33 i e).1, (hm 28 i f).1]; exact h.2 i hi
theorem RBy.fr (h : RBy σ) (hc : Fr gC a σ σ') (e21 : a.testBit 21 = false) (e22 : a.testBit 22 = false) : RBy σ' := fun s i hs hi c => by
  rw [(hc 39 s e21).1] at c
  rw [(hc (176 + s) i (by rw [gC_el hs]; exact e22)).2]; exact h s i hs hi c
theorem RelB.fr (h : RelB σ ρ) (hI : IvC 0 τ σ) (hc : Fr gC a σ σ') (hm : Fr gM b ρ ρ') (e : a &&& 24379902 = 0) (f : b &&& 24379902 = 0) : RelB σ' ρ' := by
  obtain ⟨hA, hT, hN, hC, hK, hU, hB⟩ := h
  have b3 : (σ.1 3 3).toInt ≤ 40 := (hI.1 3 3).2
  refine ⟨?_, hT.fr hc hm (nb_of e rfl) (nb_of f rfl), hN.fr b3 hc hm (nb_of e rfl) (nb_of f rfl), ?_, hK.fr hc hm (nb_of e rfl) (nb_of e rfl) (nb_of f rfl), hU.fr hc hm (nb_of e rfl) (nb_of f rfl), hB.fr hc (nb_of e rfl) (nb_of e rfl)⟩
  · obtain ⟨hk, hF, hA, hS, hE⟩ := hA
    refine ⟨hk.fr hc hm (nb_of e rfl) (nb_of e rfl) (nb_of e rfl) (nb_of e rfl) (nb_of f rfl) (nb_of f rfl) (nb_of f rfl) (nb_of f rfl), hF.fr hc hm (nb_of e rfl) (nb_of f rfl), hA.fr hc hm (nb_of e rfl) (nb_of f rfl), hS.fr hc hm (nb_of e rfl) (nb_of f rfl) ?_, hE.fr hc hm (nb_of e rfl) (nb_of f rfl)⟩
    rw [(hc 7 5 (nb_of (g := 3) e rfl)).1]; exact Int.le_refl _
  · rw [(hc 0 6 (nb_of (g := 24) e rfl)).1, (hm 0 9 (nb_of (g := 24) f rfl)).1]; exact hC
/-- relation A goes on by a method of its own; the rest by frames -/
theorem RelB.of (h : RelB σ ρ) (hA : RelA σ' ρ') (hI : IvC 0 τ σ) (hc : Fr gC a σ σ') (hm : Fr gM b ρ ρ') (e : a &&& 17039502 = 0) (f : b &&& 17039502 = 0) (hB : RBy σ') : RelB σ' ρ' := by
  obtain ⟨_, hT, hN, hC, hK, hU, _⟩ := h
  have b3 : (σ.1 3 3).toInt ≤ 40 := (hI.1 3 3).2
  refine ⟨hA, hT.fr hc hm (nb_of e rfl) (nb_of f rfl), hN.fr b3 hc hm (nb_of e rfl) (nb_of f rfl), ?_, hK.fr hc hm (nb_of e rfl) (nb_of e rfl) (nb_of f rfl), hU.fr hc hm (nb_of e rfl) (nb_of f rfl), hB⟩
  rw [(hc 0 6 (nb_of (g := 24) e rfl)).1, (hm 0 9 (nb_of (g := 24) f rfl)).1]; exact hC
/-- relation A alone goes by frames -/
theorem RelB.to (h : RelB σ ρ) (hc : Fr gC a σ σ') (hm : Fr gM b ρ ρ') (e : a &&& 7340408 = 0) (f : b &&& 7340408 = 0) : RelA σ' ρ' := RelA.fr h.1 hc hm e f
end FRB
section ROWS
variable {σ σ' : S2} {τ : Nat} {a i c d n r : Int32}
theorem low8 (v : Int32) : -128 ≤ (Int32.toInt64 (Int8.toInt32 (Int32.toInt8 v))).toInt ∧ (Int32.toInt64 (Int8.toInt32 (Int32.toInt8 v))).toInt ≤ 127 := by
  rw [Int32.toInt_toInt64, Int8.toInt_toInt32]
  have h1 := Int8.le_toInt v.toInt8
  have h2 := Int8.toInt_lt v.toInt8
  omega
theorem by_put {v : Int64} (hB : RBy σ) (h : fX11_put τ σ a i v = some (r, σ')) : RBy σ' := by
  have key : Pt (fun z : Int32 × S2 => RBy z.2) (fX11_put τ σ a i v) := by
    unfold fX11_put fX11_put_0
    refine pt_bi q_shelf (fun r1 _ => pt_if (fun _ => pt_some hB) (fun _ => pt_bi (P := fun _ => True) (fun _ _ => trivial) (fun r3 _ => pt_if (fun _ => ?_) (fun _ => pt_some hB))))
    refine pt_ck (fun _ _ _ => pt_ck (fun _ _ _ => pt_nm (fun v6 e6 => pt_bi (P := fun w : Int64 => v6 = 0 → -128 ≤ w.toInt ∧ w.toInt ≤ 127) (fun w hw c => ?_) (fun w hw => pt_ck (fun _ _ _ => pt_nm (fun s1 e1 => pt_some ?_))))))
    · unfold fX7_lowest fX7_lowest_0 at hw
      rw [if_pos c] at hw
      cases hw; exact low8 _
    · intro s j hs hj c
      have e1 : s1 = ux_wL σ (176 + a.toNatClampNeg) i.toNatClampNeg w := e1
      have c : σ.1 39 s = 0 := by
        have : s1.1 39 s = 0 := c
        rw [e1] at this; exact this
      have key : s1.2 (176 + s) j = if s = a.toNatClampNeg ∧ j = i.toNatClampNeg then w else σ.2 (176 + s) j := by
        rw [e1]
        show (if 176 + s = 176 + a.toNatClampNeg then vp_updL (σ.2 (176 + a.toNatClampNeg)) i.toNatClampNeg w else σ.2 (176 + s)) j = _
        by_cases q : s = a.toNatClampNeg
        · rw [if_pos (by rw [q])]
          by_cases q2 : j = i.toNatClampNeg
          · rw [if_pos ⟨q, q2⟩]; exact if_pos q2
          · rw [if_neg (fun w => q2 w.2), q]; exact if_neg q2
        · rw [if_neg (by omega), if_neg (fun w => q w.1)]
      show -128 ≤ (s1.2 (176 + s) j).toInt ∧ (s1.2 (176 + s) j).toInt ≤ 127
      rw [key]
      by_cases q : s = a.toNatClampNeg ∧ j = i.toNatClampNeg
      · rw [if_pos q]; exact hw (by rw [e6, ← q.1]; exact c)
      · rw [if_neg q]; exact hB s j hs hj c
  exact key _ h
theorem by_row (hB : RBy σ) (h : fX11_row τ σ a i c = some (r, σ')) : RBy σ' := by
  rcases c_row _ h with ⟨e, _⟩ | ⟨_, _, _, e1, e2⟩
  · have e : σ' = σ := e
    rw [e]; exact hB
  · intro s j hs hj c0
    have e1 : σ'.1 = (ux_wI (ux_wI (ux_wI σ 38 a.toNatClampNeg (-1)) 39 a.toNatClampNeg i) 40 a.toNatClampNeg c).1 := e1
    have e2 : σ'.2 (176 + s) j = if 176 + s = 176 + a.toNatClampNeg ∧ (0 : Int) ≤ (j : Int) ∧ (j : Int) < 60 then 0 else σ.2 (176 + s) j := e2 (176 + s) j
    rw [e2]
    by_cases q : s = a.toNatClampNeg
    · rw [if_pos ⟨by rw [q], by omega, by omega⟩]; decide
    · rw [if_neg (fun w => q (by omega))]
      refine hB s j hs hj ?_
      rw [e1, wI_k _ _ _ _ (by decide), wI_i _ _ _ q, wI_k _ _ _ _ (by decide)] at c0
      exact c0
theorem by_keep (hB : RBy σ) (h : fX11_keep τ σ a i = some (r, σ')) : RBy σ' := by
  rcases c_keep _ h with ⟨e, _⟩ | ⟨_, _, e⟩
  · have e : σ' = σ := e
    rw [e]; exact hB
  · intro s j hs hj c0
    have e : σ' = ux_wI (ux_wI (ux_wI σ 38 a.toNatClampNeg i) 39 a.toNatClampNeg (-1)) 40 a.toNatClampNeg 0 := e
    rw [e, wI_k _ _ _ _ (by decide)] at c0
    have e2 : σ'.2 = σ.2 := by rw [e]; rfl
    rw [e2]
    by_cases q : s = a.toNatClampNeg
    · rw [q, wI_eq] at c0; exact absurd c0 (by decide)
    · rw [wI_i _ _ _ q, wI_k _ _ _ _ (by decide)] at c0
      exact hB s j hs hj c0
theorem by_shift (hB : RBy σ) (hI : IvC 0 τ σ) (h : fX11_shift τ σ a i c d n = some (r, σ')) : RBy σ' := by
  rcases c_shift hI _ h with ⟨e, _⟩ | ⟨⟨⟨⟨a0, a5⟩, c0, c5⟩, _, _, tt, ⟨i0, n0, il, nl⟩, d0, _, dl, ml⟩, _, e⟩
  · have e : σ' = σ := e
    rw [e]; exact hB
  · intro s j hs hj c0
    have e : σ' = ux_L σ (176 + c.toNatClampNeg) (va_cpy (σ.2 (176 + a.toNatClampNeg)) (σ.2 (176 + c.toNatClampNeg)) i.toNatClampNeg d.toNatClampNeg n.toNatClampNeg) := e
    have b40 : 0 ≤ (σ.1 40 a.toNatClampNeg).toInt ∧ (σ.1 40 a.toNatClampNeg).toInt ≤ 60 := hI.1 40 _
    have na := i32_nat a0
    have ni := i32_nat i0
    have nn := i32_nat n0
    have nd := i32_nat d0
    have c0 : σ.1 39 s = 0 := by rw [e] at c0; exact c0
    have key : σ'.2 (176 + s) j = if s = c.toNatClampNeg ∧ d.toNatClampNeg ≤ j ∧ j < d.toNatClampNeg + n.toNatClampNeg then σ.2 (176 + a.toNatClampNeg) (i.toNatClampNeg + (j - d.toNatClampNeg)) else σ.2 (176 + s) j := by
      rw [e]
      show (if 176 + s = 176 + c.toNatClampNeg then va_cpy (σ.2 (176 + a.toNatClampNeg)) (σ.2 (176 + c.toNatClampNeg)) i.toNatClampNeg d.toNatClampNeg n.toNatClampNeg else σ.2 (176 + s)) j = _
      by_cases q : s = c.toNatClampNeg
      · rw [if_pos (by rw [q])]
        show (if d.toNatClampNeg ≤ j ∧ j < d.toNatClampNeg + n.toNatClampNeg then σ.2 (176 + a.toNatClampNeg) (i.toNatClampNeg + (j - d.toNatClampNeg)) else σ.2 (176 + c.toNatClampNeg) j) = _
        by_cases q2 : d.toNatClampNeg ≤ j ∧ j < d.toNatClampNeg + n.toNatClampNeg
        · rw [if_pos q2, if_pos ⟨q, q2⟩]
        · rw [if_neg q2, if_neg (fun w => q2 w.2), q]
      · rw [if_neg (by omega), if_neg (fun w => q w.1)]
    rw [key]
    by_cases q : s = c.toNatClampNeg ∧ d.toNatClampNeg ≤ j ∧ j < d.toNatClampNeg + n.toNatClampNeg
    · rw [if_pos q]
      refine hB a.toNatClampNeg _ (by omega) (by omega) (Int32.toInt_inj.mp ?_)
      rw [tt, ← q.1, c0]
    · rw [if_neg q]; exact hB s j hs hj c0
end ROWS
section STB
variable {σ ρ σ' ρ' : S2} {τ δ : Nat} {a b c r q : Int32}
theorem sb_feed (hR : RelB σ ρ) (hI : IvC 0 τ σ) (h : fX11_feed τ σ a b = some (r, σ')) (h2 : fX12_feed ρ a b = some (q, ρ')) : r = q ∧ RelB σ' ρ' := by
  have fc := wfX11_feed (m := 2) rfl τ σ a b (Fr.rf σ) _ h
  have fm := wfX12_feed (m := 2) rfl ρ a b (Fr.rf ρ) _ h2
  have b3 : (σ.1 3 3).toInt ≤ 40 := (hI.1 3 3).2
  have t := st_feed0 hR.2.1 hI h h2
  have hA := hR.to fc fm rfl rfl
  obtain ⟨_, hT, hN, hC, hK, hU, hB⟩ := hR
  exact ⟨t.1, hA, t.2, hN.fr b3 fc fm rfl rfl, by rw [(fc 0 6 rfl).1, (fm 0 9 rfl).1]; exact hC, hK.fr fc fm rfl rfl rfl, hU.fr fc fm rfl rfl, hB.fr fc rfl rfl⟩
theorem sb_name (hR : RelB σ ρ) (hI : IvC 0 τ σ) (hM : IvM 0 ρ) (h : fX11_name τ σ = some (r, σ')) (h2 : fX12_name ρ = some (q, ρ')) : r = q ∧ RelB σ' ρ' := by
  have fc := wfX11_name (m := 6) rfl τ σ (Fr.rf σ) _ h
  have fm := wfX12_name (m := 7) rfl ρ (Fr.rf ρ) _ h2
  have t := st_name0 hR.2.1 hR.2.2.1 hI hM h h2
  have hA := hR.to fc fm rfl rfl
  obtain ⟨_, hT, hN, hC, hK, hU, hB⟩ := hR
  exact ⟨t.1, hA, t.2.1, t.2.2, by rw [(fc 0 6 rfl).1, (fm 0 9 rfl).1]; exact hC, hK.fr fc fm rfl rfl rfl, hU.fr fc fm rfl rfl, hB.fr fc rfl rfl⟩
theorem sb_names (hR : RelB σ ρ) (hI : IvC 0 τ σ) (h : fX11_names τ σ a b c = some (r, σ')) (h2 : fX12_names ρ a b c = some (q, ρ')) : r = q ∧ RelB σ' ρ' := by
  have fc := wfX11_names (m := 5) rfl τ σ a b c (Fr.rf σ) _ h
  have fm := wfX12_names (m := 5) rfl ρ a b c (Fr.rf ρ) _ h2
  have t := st_names0 hR.1.2.2.2.1 hR.1.2.2.2.2 hR.2.2.1 hR.2.2.2.2.2.2 hI h h2
  have hA := hR.to fc fm rfl rfl
  obtain ⟨_, hT, hN, hC, hK, hU, hB⟩ := hR
  exact ⟨t.1, hA, hT.fr fc fm rfl rfl, t.2, by rw [(fc 0 6 rfl).1, (fm 0 9 rfl).1]; exact hC, hK.fr fc fm rfl rfl rfl, hU.fr fc fm rfl rfl, hB.fr fc rfl rfl⟩
theorem sb_table (hR : RelB σ ρ) (hI : IvC 0 τ σ) (hM : IvM 0 ρ) (h : fX11_table τ σ a b = some (r, δ, σ')) (h2 : fX12_table ρ a b = some (q, ρ')) : RelB σ' ρ' := by
  have fc : Fr gC 25167363 σ σ' := wfX11_table _ h
  have fm := wfX12_table (m := 16777731) rfl ρ a b (Fr.rf ρ) _ h2
  have hM' : IvM 0 ρ' := by
    obtain ⟨z, hz, p, _⟩ := sX12_table ρ a b hM
    rw [h2] at hz; cases hz; exact p
  have b3 : (σ.1 3 3).toInt ≤ 40 := (hI.1 3 3).2
  have t := st_table hR.1.1 hR.2.1 hR.2.2.2.1 hI hM hM' h h2
  have hA := hR.to fc fm rfl rfl
  obtain ⟨_, hT, hN, hC, hK, hU, hB⟩ := hR
  exact ⟨hA, t.1, hN.fr b3 fc fm rfl rfl, t.2, hK.fr fc fm rfl rfl rfl, hU.fr fc fm rfl rfl, hB.fr fc rfl rfl⟩
theorem c_keeper11 : Pt (fun z : Int32 × S2 => z.2 = σ ∨ z.2.1 7 5 = σ.1 7 5 + 1 ∧ ∀ i : Nat, z.2.1 11 i = if i = (σ.1 7 5).toNatClampNeg then -1 else σ.1 11 i) (fX11_keeper τ σ a b) := by
  unfold fX11_keeper fX11_keeper_0
  refine pt_lt (fun h => pt_some (Or.inl rfl)) (fun h1 => ?_)
  refine pt_lt (fun h => pt_some (Or.inl rfl)) (fun h2 => ?_)
  refine pt_bi q_str (fun r hr => ?_)
  refine pt_eq (fun h => pt_some (Or.inl rfl)) (fun h3 => ?_)
  refine pt_lt (fun h4 => ?_) (fun h => pt_some (Or.inl rfl))
  refine pt_bs (P := fun z => z.2.1 7 5 = σ.1 7 5 + 1 ∧ ∀ i : Nat, z.2.1 11 i = if i = (σ.1 7 5).toNatClampNeg then -1 else σ.1 11 i) ?_ (fun r4 σ4 h5 => pt_some (Or.inr h5))
  unfold fX2_add fX2_add_0
  refine pt_ck (fun _ _ _ => pt_nm (fun s1 e1 => ?_))
  subst e1
  refine pt_ck (fun _ _ _ => pt_nm (fun s1 e1 => ?_))
  subst e1
  refine pt_ck (fun _ _ _ => pt_nm (fun s1 e1 => ?_))
  subst e1
  refine pt_ck (fun _ _ _ => pt_nm (fun s1 e1 => ?_))
  subst e1
  refine pt_nm (fun s1 e1 => ?_)
  subst e1
  exact pt_some ⟨rfl, fun i => rfl⟩
theorem sb_keeper (hR : RelB σ ρ) (hI : IvC 0 τ σ) (hM : IvM 0 ρ) (h : fX11_keeper τ σ a b = some (r, σ')) (h2 : fX12_keeper ρ a b = some (q, ρ')) : r = q ∧ RelB σ' ρ' := by
  have z1 := i_1
  have fc := wfX11_keeper (m := 248) rfl τ σ a b (Fr.rf σ) _ h
  have fm := wfX12_keeper (m := 104) rfl ρ a b (Fr.rf ρ) _ h2
  have t := st_keeper hR.1 hI hM h h2
  have b3 : (σ.1 3 3).toInt ≤ 40 := (hI.1 3 3).2
  have b7 : 0 ≤ (σ.1 7 5).toInt ∧ (σ.1 7 5).toInt ≤ 12 := hI.1 7 5
  have n7 := i32_nat b7.1
  have k11 := c_keeper11 _ h
  obtain ⟨_, hT, hN, hC, hK, hU, hB⟩ := hR
  refine ⟨t.1, t.2, hT.fr fc fm rfl rfl, hN.fr b3 fc fm rfl rfl, by rw [(fc 0 6 rfl).1, (fm 0 9 rfl).1]; exact hC, fun i hi => ?_, hU.fr fc fm rfl rfl, hB.fr fc rfl rfl⟩
  have e6 : ρ'.1 6 i = ρ.1 6 i := fm.at 6 i 7 rfl rfl
  rcases k11 with e | ⟨e, e2⟩
  · have e : σ' = σ := e
    rw [e, e6]; exact hK i hi
  · have e : σ'.1 7 5 = σ.1 7 5 + 1 := e
    have e2 : σ'.1 11 i = if i = (σ.1 7 5).toNatClampNeg then -1 else σ.1 11 i := e2 i
    have s1 : (σ.1 7 5 + 1).toInt = (σ.1 7 5).toInt + 1 := by rw [i32_add (by omega) (by omega)]; omega
    rw [e, s1, e6, e2]
    refine ⟨fun w => ?_, fun w => (hK i hi).2 (by omega)⟩
    by_cases c : i = (σ.1 7 5).toNatClampNeg
    · rw [if_pos c]; exact (hK i hi).2 (by omega)
    · rw [if_neg c]; exact (hK i hi).1 (by omega)
theorem sb_knows (hR : RelB σ ρ) (hI : IvC 0 τ σ) (hM : IvM 0 ρ) (h : fX11_knows τ σ a b = some (r, σ')) (h2 : fX12_knows ρ a b = some (q, ρ')) : r = q ∧ RelB σ' ρ' := by
  have z0 := i_0
  have z1 := i_1
  have y1 := i_m1
  have fc := wfX11_knows (m := 128) rfl τ σ a b (Fr.rf σ) _ h
  have fm := wfX12_knows (m := 128) rfl ρ a b (Fr.rf ρ) _ h2
  have b3 : (σ.1 3 3).toInt ≤ 40 := (hI.1 3 3).2
  have b7 : 0 ≤ (σ.1 7 5).toInt ∧ (σ.1 7 5).toInt ≤ 12 := hI.1 7 5
  have b6 : 0 ≤ (σ.1 0 6).toInt ∧ (σ.1 0 6).toInt ≤ 10 := hI.1 0 6
  have hA := hR.to fc fm rfl rfl
  have k1 := hR.1.1.1
  obtain ⟨_, hT, hN, hC, hK, hU, hB⟩ := hR
  suffices w : r = q ∧ RKn σ' ρ' from ⟨w.1, hA, hT.fr fc fm rfl rfl, hN.fr b3 fc fm rfl rfl, by rw [(fc 0 6 rfl).1, (fm 0 9 rfl).1]; exact hC, w.2, hU.fr fc fm rfl rfl, hB.fr fc rfl rfl⟩
  unfold fX11_knows fX11_knows_0 at h
  unfold fX12_knows fX12_knows_0 at h2
  obtain ⟨r1, f1, h⟩ := biS h
  have g1 := q_has _ f1
  obtain ⟨r2, f2, h2⟩ := biS h2
  have g2 := q_keeperM hM _ f2
  rw [k1] at g2
  by_cases c1 : r1 = 0
  · rw [if_pos c1] at h
    rw [if_pos (Int32.toInt_inj.mp (by rw [z0]; rw [c1] at g1; omega))] at h2
    cases h; cases h2; exact ⟨rfl, hK⟩
  have c1' : r1.toInt ≠ 0 := fun w => c1 (Int32.toInt_inj.mp (w.trans z0.symm))
  rw [if_neg c1] at h
  rw [if_neg (fun w => by rw [w] at g2; omega)] at h2
  obtain ⟨r3, f3, h2⟩ := biS h2
  have g3 := q_in _ f3
  have e9 : (ρ.1 0 9 - 1).toInt = (σ.1 0 6).toInt - 1 := by rw [hC, i32_sub (by omega) (by omega)]; omega
  rw [e9, y1] at g3
  by_cases c2 : b < -1
  · rw [if_pos c2] at h
    have c2 := Int32.lt_iff_toInt_lt.mp c2
    rw [y1] at c2
    rw [if_pos (Int32.toInt_inj.mp (by rw [z0]; omega))] at h2
    cases h; cases h2; exact ⟨rfl, hK⟩
  rw [if_neg c2] at h
  have c2' : ¬ b.toInt < ((-1 : Int32)).toInt := fun w => c2 (Int32.lt_iff_toInt_lt.mpr w)
  rw [y1] at c2'
  by_cases c3 : b < σ.1 0 6
  · rw [if_pos c3] at h
    have c3 := Int32.lt_iff_toInt_lt.mp c3
    rw [if_neg (fun w => by rw [w] at g3; omega)] at h2
    obtain ⟨_, h⟩ := ckS h
    obtain ⟨_, h⟩ := ckS h
    have h : some (σ.1 11 a.toNatClampNeg, ux_wI σ 11 a.toNatClampNeg b) = some (r, σ') := h
    obtain ⟨_, h2⟩ := ckS h2
    obtain ⟨_, h2⟩ := ckS h2
    have h2 : some (ρ.1 6 a.toNatClampNeg, ux_wI ρ 6 a.toNatClampNeg b) = some (q, ρ') := h2
    have na := i32_nat (i := a) (by omega)
    have e := (hK a.toNatClampNeg (by omega)).1 (by omega)
    cases h; cases h2
    refine ⟨e.symm, fun i hi => ?_⟩
    rw [wI_k _ _ _ _ (by decide)]
    by_cases c : i = a.toNatClampNeg
    · rw [c, wI_eq, wI_eq]; exact ⟨fun _ => rfl, fun w => by omega⟩
    · rw [wI_i _ _ _ c, wI_i _ _ _ c]; exact hK i hi
  · rw [if_neg c3] at h
    have c3' : ¬ b.toInt < (σ.1 0 6).toInt := fun w => c3 (Int32.lt_iff_toInt_lt.mpr w)
    rw [if_pos (Int32.toInt_inj.mp (by rw [z0]; omega))] at h2
    cases h; cases h2; exact ⟨rfl, hK⟩
theorem sb_turning (hR : RelB σ ρ) (hI : IvC 0 τ σ) (h : fX11_turning τ σ a = some (r, σ')) (h2 : fX12_turning ρ a = some (q, ρ')) : r = q ∧ RelB σ' ρ' := by
  have z1 := i_1
  have z6 := i_6
  have fc := wfX11_turning (m := 262144) rfl τ σ a (Fr.rf σ) _ h
  have fm := wfX12_turning (m := 262144) rfl ρ a (Fr.rf ρ) _ h2
  have b3 : (σ.1 3 3).toInt ≤ 40 := (hI.1 3 3).2
  have b1 : 0 ≤ (σ.1 32 1).toInt ∧ (σ.1 32 1).toInt ≤ 6 := hI.1 32 1
  have hA := hR.to fc fm rfl rfl
  obtain ⟨_, hT, hN, hC, hK, hU, hB⟩ := hR
  suffices w : r = q ∧ RTu σ' ρ' from ⟨w.1, hA, hT.fr fc fm rfl rfl, hN.fr b3 fc fm rfl rfl, by rw [(fc 0 6 rfl).1, (fm 0 9 rfl).1]; exact hC, hK.fr fc fm rfl rfl rfl, w.2, hB.fr fc rfl rfl⟩
  unfold fX11_turning fX11_turning_0 at h
  unfold fX12_turning fX12_turning_0 at h2
  rw [hU.1] at h2
  by_cases c : σ.1 32 1 < 6
  · rw [if_pos c] at h
    have c' := Int32.lt_iff_toInt_lt.mp c
    rw [if_neg (fun w => by rw [w] at c'; exact absurd c' (by decide))] at h2
    obtain ⟨_, h⟩ := ckS h
    obtain ⟨_, h2⟩ := ckS h2
    have n1 := i32_nat b1.1
    have s1 : (σ.1 32 1 + 1).toInt = (σ.1 32 1).toInt + 1 := by rw [i32_add (by omega) (by omega)]; omega
    have h : some ((ux_wI (ux_wI σ 33 (σ.1 32 1).toNatClampNeg a) 32 1 (σ.1 32 1 + 1)).1 32 1, ux_wI (ux_wI σ 33 (σ.1 32 1).toNatClampNeg a) 32 1 (σ.1 32 1 + 1)) = some (r, σ') := h
    have h2 : some ((ux_wI (ux_wI ρ 28 (σ.1 32 1).toNatClampNeg a) 0 34 (ρ.1 0 34 + 1)).1 0 34, ux_wI (ux_wI ρ 28 (σ.1 32 1).toNatClampNeg a) 0 34 (ρ.1 0 34 + 1)) = some (q, ρ') := h2
    cases h; cases h2
    refine ⟨by rw [wI_eq, wI_eq, hU.1], by rw [wI_eq, wI_eq, hU.1], fun i hi => ?_⟩
    rw [wI_eq, s1] at hi
    rw [wI_k (ux_wI ρ 28 (σ.1 32 1).toNatClampNeg a) 34 i _ (show 28 ≠ 0 by decide), wI_k (ux_wI σ 33 (σ.1 32 1).toNatClampNeg a) 1 i _ (show 33 ≠ 32 by decide)]
    by_cases w : i = (σ.1 32 1).toNatClampNeg
    · rw [w, wI_eq, wI_eq]
    · rw [wI_i _ _ _ w, wI_i _ _ _ w]; exact hU.2 i (by omega)
  · rw [if_neg c] at h
    have c' : ¬ (σ.1 32 1).toInt < (6 : Int32).toInt := fun w => c (Int32.lt_iff_toInt_lt.mpr w)
    rw [if_pos (Int32.toInt_inj.mp (by rw [z6]; omega))] at h2
    cases h; cases h2; exact ⟨rfl, hU⟩
theorem c_leastHarm {b1 : Nat} : ∀ (N : Nat) (σ : S2) (x3 x4 : Int32), Pt (fun z : Int32 × S2 => z.2.1 32 1 = 0) (fX10_leastHarm_10 τ b1 N σ x3 x4) := by
  intro N
  induction N with
  | zero => intro σ x3 x4; exact pt_none
  | succ N ih =>
    intro σ x3 x4
    unfold fX10_leastHarm_10 fX10_leastHarm_51 fX10_leastHarm_60
    refine pt_if (fun _ => pt_nm (fun s e => pt_some (by rw [e]; exact wI_eq _ _ _ _))) (fun _ => pt_ck (fun _ _ _ => pt_nm (fun v4 _ => ?_)))
    refine pt_bs (P := fun _ => True) (fun _ _ => trivial) (fun r5 σ6 _ => pt_bs (P := fun _ => True) (fun _ _ => trivial) (fun r8 σ9 _ => ?_))
    exact pt_if (fun _ => pt_nm (fun s _ => pt_nm (fun v _ => ih s _ v))) (fun _ => pt_if (fun _ => pt_nm (fun v _ => ih σ9 _ v)) (fun _ => pt_nm (fun s _ => pt_nm (fun v _ => ih s _ v))))
theorem m_harm_52 {k21 : S2 → Int32 → Int32 → Int32 → Option (Int32 × S2)} {Q : Int32 × S2 → Prop} (hk : ∀ (σ : S2) (x1 x2 x3 : Int32), Pt Q (k21 σ x1 x2 x3)) : ∀ (N : Nat) (σ : S2) (x1 x2 x3 x4 x5 : Int32), Pt Q (fX12_harm_52 k21 N σ x1 x2 x3 x4 x5) := by
  intro N
  induction N with
  | zero => intro σ x1 x2 x3 x4 x5; exact pt_none
  | succ N ih =>
    intro σ x1 x2 x3 x4 x5
    unfold fX12_harm_52 fX12_harm_84 fX12_harm_100 fX12_harm_121 fX12_harm_129
    refine pt_if (fun _ => pt_if (fun _ => pt_nm (fun s _ => pt_nm (fun v _ => hk _ _ _ _))) (fun _ => pt_if (fun _ => pt_nm (fun v _ => hk _ _ _ _)) (fun _ => pt_nm (fun s _ => pt_nm (fun v _ => hk _ _ _ _))))) (fun _ => pt_bi (P := fun _ => True) (fun _ _ => trivial) (fun r4 _ => ?_))
    refine pt_if (fun _ => pt_if (fun _ => pt_nm (fun v _ => ih _ _ _ _ _ _)) (fun _ => pt_nm (fun v _ => ih _ _ _ _ _ _))) (fun _ => pt_bs (P := fun _ => True) (fun _ _ => trivial) (fun r6 σ7 _ => pt_if (fun _ => pt_nm (fun v _ => ih _ _ _ _ _ _)) (fun _ => pt_nm (fun v _ => ih _ _ _ _ _ _))))
theorem m_harm_21 : ∀ (N : Nat) (σ : S2) (x1 x2 x3 : Int32), Pt (fun z : Int32 × S2 => z.2.1 0 34 = 0) (fX12_harm_21 N σ x1 x2 x3) := by
  intro N
  induction N with
  | zero => intro σ x1 x2 x3; exact pt_none
  | succ N ih =>
    intro σ x1 x2 x3
    unfold fX12_harm_21
    refine pt_if (fun _ => pt_nm (fun s e => pt_some (by rw [e]; exact wI_eq _ _ _ _))) (fun _ => pt_ck (fun _ _ _ => pt_nm (fun v10 _ => pt_ck (fun _ _ _ => pt_nm (fun v11 _ => pt_bs (P := fun _ => True) (fun _ _ => trivial) (fun r12 σ13 _ => m_harm_52 ih FU σ13 _ _ _ _ _))))))
/-- is there such a table: both sides alike -/
theorem q_tableM {x : Int32} (hM : IvM 0 ρ) : Pt (fun r => (r.toInt = 0 ∧ ¬ (0 ≤ x.toInt ∧ x.toInt < (ρ.1 0 9).toInt)) ∨ (r.toInt = 1 ∧ 0 ≤ x.toInt ∧ x.toInt < (ρ.1 0 9).toInt)) (fX12_isTable ρ x) := by
  have z0 := i_0
  have z1 := i_1
  have b9 : 0 ≤ (ρ.1 0 9).toInt ∧ (ρ.1 0 9).toInt ≤ 10 := hM.1 0 9
  have e : ((ρ.1 0 9) - 1).toInt = (ρ.1 0 9).toInt - 1 := by rw [i32_sub (by omega) (by omega)]; omega
  unfold fX12_isTable fX12_isTable_0
  refine pt_bi q_in (fun r h => pt_zb (pt_some ?_))
  omega
theorem tableAt_q {x : Int32} (hI : IvC 0 τ σ) : fX11_tableAt τ σ x = some (if 0 ≤ x.toInt ∧ x.toInt < (σ.1 0 6).toInt then some (x.toNatClampNeg + 1) else none) := by
  have z0 := i_0
  have b6 : 0 ≤ (σ.1 0 6).toInt ∧ (σ.1 0 6).toInt ≤ 10 := hI.1 0 6
  have hτ := hI.2.2
  unfold fX11_tableAt
  by_cases c : x < 0
  · have := Int32.lt_iff_toInt_lt.mp c
    rw [if_pos c, if_neg (by omega)]
  · have c' : ¬ x.toInt < (0 : Int32).toInt := fun w => c (Int32.lt_iff_toInt_lt.mpr w)
    rw [if_neg c]
    by_cases d : σ.1 0 6 ≤ x
    · have := Int32.le_iff_toInt_le.mp d
      rw [if_pos d, if_neg (by omega)]
    · have d' : ¬ (σ.1 0 6).toInt ≤ x.toInt := fun w => d (Int32.le_iff_toInt_le.mpr w)
      have nx := i32_nat (i := x) (by omega)
      rw [if_neg d, if_pos (by omega : 0 ≤ x.toInt ∧ x.toInt < (σ.1 0 6).toInt)]
      unfold ck
      rw [if_neg (fun w => w.elim c (fun w => by omega)), if_pos (by omega)]
theorem sb_harm (hR : RelB σ ρ) (hI : IvC 0 τ σ) (hM : IvM 0 ρ) (h : fX11_harm τ σ a = some (r, σ')) (h2 : fX12_harm ρ a = some (q, ρ')) : RelB σ' ρ' := by
  have z0 := i_0
  have fc := wfX11_harm (m := 9176065) rfl τ σ a (Fr.rf σ) _ h
  have fm := wfX12_harm (m := 786945) rfl ρ a (Fr.rf ρ) _ h2
  have b3 : (σ.1 3 3).toInt ≤ 40 := (hI.1 3 3).2
  have hA := hR.to fc fm rfl rfl
  obtain ⟨_, hT, hN, hC, hK, hU, hB⟩ := hR
  suffices w : RTu σ' ρ' from ⟨hA, hT.fr fc fm rfl rfl, hN.fr b3 fc fm rfl rfl, by rw [(fc 0 6 rfl).1, (fm 0 9 rfl).1]; exact hC, hK.fr fc fm rfl rfl rfl, w, hB.fr fc rfl rfl⟩
  unfold fX11_harm fX11_harm_0 at h
  unfold fX12_harm fX12_harm_0 at h2
  obtain ⟨r15, f15, h2⟩ := biS h2
  have g15 := q_tableM hM _ f15
  rw [tableAt_q hI] at h
  rw [hC] at g15
  by_cases c : 0 ≤ a.toInt ∧ a.toInt < (σ.1 0 6).toInt
  · rw [if_pos c] at h
    have h : (if (σ.1 32 1) = 0 then some ((-1 : Int32), σ) else bs (fX10_leastHarm τ (a.toNatClampNeg + 1) σ) (fun r3 σ4 => some (r3, σ4))) = some (r, σ') := h
    rw [if_neg (fun w => by rw [w] at g15; omega), hU.1] at h2
    by_cases c0 : σ.1 32 1 = 0
    · rw [if_pos c0] at h h2
      cases h; cases h2; exact hU
    · rw [if_neg c0] at h h2
      obtain ⟨r3, σ4, f4, h⟩ := bsS h
      cases h
      unfold fX10_leastHarm fX10_leastHarm_0 at f4
      obtain ⟨u, s1, f5, f4⟩ := bsS f4
      have e1 := c_leastHarm FU s1 _ _ _ f4
      have e2 := m_harm_21 FU ρ _ _ _ _ h2
      have e1 : σ'.1 32 1 = 0 := e1
      have e2 : ρ'.1 0 34 = 0 := e2
      exact ⟨e2.trans e1.symm, fun i hi => by rw [e1, z0] at hi; omega⟩
  · rw [if_neg c] at h
    have h : some ((-1 : Int32), σ) = some (r, σ') := h
    rw [if_pos (Int32.toInt_inj.mp (by rw [z0]; omega))] at h2
    cases h; cases h2; exact hU
end STB
