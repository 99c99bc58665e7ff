theorem nwl_in : ∀ w ∈ nwl, w ∈ lw_tbl := by decide +kernel
theorem vz_arr_of {s : State} {args : Array Value} {ty : FieldType} (hn : ∀ C, ty ≠ .object C) (h : (Cond.arrayClass ty).before args s = true) : ∃ cA, ArrOfT s cA ty ∧ va_RA s cA ty := by
  obtain ⟨cA, k, comp, h1, h2, h3⟩ := Cond.arrayClass_spec h
  refine ⟨cA, fun N z => ⟨(fun k h => by cases h), k, h2, comp, h3⟩, ?_⟩
  cases ty with
  | object C => exact absurd rfl (hn C)
  | _ => exact h1
theorem vz_grid_of {s : State} {ty : FieldType} (h : va_AOA ty s) : ∃ cA, ArrOfT s cA (.array ty) ∧ va_RA s cA (.array ty) := by
  obtain ⟨comp, cA, k, h1, h2, h3, h4, h5⟩ := Jvm.Stand.arrayOver_specB h
  exact ⟨cA, fun N z => ⟨(fun k h => by cases h), k, h3, comp, h4⟩, h5⟩
theorem vz_tabs_of {s : State} {C : String} (h : va_AO C s) : ∃ cA, ArrOfT s cA (.object C) ∧ va_RA s cA (.object C) := by
  obtain ⟨comp, cA, k, h1, h2, h3, h4, h5⟩ := Cond.arrayOver_spec h
  exact ⟨cA, fun N z => ⟨(fun k h => by cases h), k, h3, comp, h4⟩, k, comp, h3, h4, h1, h5⟩
theorem vz_nw {s : State} {args : Array Value} (hts : ∀ w ∈ lw_tbl, w.before args s = true) : NW s :=
  ⟨fun w hw => nwl_all (fun w => w ∈ lw_tbl → va_Nw w s) (fun _ _ _ _ _ hm => va_Nw.of rfl (hts _ hm)) w hw (nwl_in w hw), va_AO.of (hts (.arrayOver (.object "SeatsRound$Table")) (by decide +kernel)), va_AOA.of (hts (.arrayOver (.array .byte)) (by decide +kernel)), va_AOA.of (hts (.arrayOver (.array .int)) (by decide +kernel)), va_AOA.of (hts (.arrayOver (.array .long)) (by decide +kernel))⟩
theorem vz_known {s : State} {args : Array Value} (hts : ∀ w ∈ lw_tbl, w.before args s = true) : ∃ (dC : Nat → ClassId) (dI : Nat → Nat → Nat) (cy : Nat → ClassId), va_K (dC, dI) vwCl (tyl cy) s := by
  have hN := vz_nw hts
  obtain ⟨c0, iS0, hKn0⟩ := u_known (C := RX0) (T := TX0) (N := 5) (n := 5) hts inX0 (hts (.instantiable RX0 5) (by decide +kernel))
  obtain ⟨c1, iS1, hKn1⟩ := u_known (C := RX1) (T := TX1) (N := 9) (n := 9) hts inX1 (hts (.instantiable RX1 9) (by decide +kernel))
  obtain ⟨c2, iS2, hKn2⟩ := u_known (C := RX2) (T := TX2) (N := 6) (n := 6) hts inX2 (hts (.instantiable RX2 6) (by decide +kernel))
  obtain ⟨c3, iS3, hKn3⟩ := u_known (C := RX3) (T := TX3) (N := 8) (n := 8) hts inX3 (hts (.instantiable RX3 8) (by decide +kernel))
  obtain ⟨c4, iS4, hKn4⟩ := u_known (C := RX4) (T := TX4) (N := 4) (n := 4) hts inX4 (hts (.instantiable RX4 4) (by decide +kernel))
  obtain ⟨c5, iS5, hKn5⟩ := u_known (C := RX5) (T := TX5) (N := 10) (n := 10) hts inX5 (hts (.instantiable RX5 10) (by decide +kernel))
  obtain ⟨c6, iS6, hKn6⟩ := u_known (C := RX6) (T := TX6) (N := 12) (n := 12) hts inX6 (hts (.instantiable RX6 12) (by decide +kernel))
  obtain ⟨c7, iS7, hKn7⟩ := u_known (C := RX7) (T := TX7) (N := 4) (n := 4) hts inX7 (hts (.instantiable RX7 4) (by decide +kernel))
  obtain ⟨c8, iS8, hKn8⟩ := u_known (C := RX8) (T := TX8) (N := 13) (n := 13) hts inX8 (hts (.instantiable RX8 13) (by decide +kernel))
  obtain ⟨c9, iS9, hKn9⟩ := u_known (C := RX9) (T := TX9) (N := 2) (n := 2) hts inX9 (hts (.instantiable RX9 2) (by decide +kernel))
  obtain ⟨c10, iS10, hKn10⟩ := u_known (C := RX10) (T := TX10) (N := 5) (n := 5) hts inX10 (hts (.instantiable RX10 5) (by decide +kernel))
  obtain ⟨c11, iS11, hKn11⟩ := u_known (C := RX11) (T := TX11) (N := 13) (n := 13) hts inX11 (hts (.instantiable RX11 13) (by decide +kernel))
  obtain ⟨c12, iS12, hKn12⟩ := u_known (C := RX12) (T := TX12) (N := 59) (n := 59) hts inX12 (hts (.instantiable RX12 59) (by decide +kernel))
  obtain ⟨a0, ha0, hr0⟩ := vz_arr_of (ty := .int) (fun C h => by cases h) (hts (.arrayClass .int) (by decide +kernel))
  obtain ⟨a1, ha1, hr1⟩ := vz_arr_of (ty := .byte) (fun C h => by cases h) (hts (.arrayClass .byte) (by decide +kernel))
  obtain ⟨a2, ha2, hr2⟩ := vz_arr_of (ty := .boolean) (fun C h => by cases h) (hts (.arrayClass .boolean) (by decide +kernel))
  obtain ⟨a3, ha3, hr3⟩ := vz_arr_of (ty := .short) (fun C h => by cases h) (hts (.arrayClass .short) (by decide +kernel))
  obtain ⟨a4, ha4, hr4⟩ := vz_arr_of (ty := .long) (fun C h => by cases h) (hts (.arrayClass .long) (by decide +kernel))
  obtain ⟨a5, ha5, hr5⟩ := vz_grid_of hN.2.2.1
  obtain ⟨a6, ha6, hr6⟩ := vz_grid_of hN.2.2.2.1
  obtain ⟨a7, ha7, hr7⟩ := vz_grid_of hN.2.2.2.2
  obtain ⟨a8, ha8, hr8⟩ := vz_tabs_of hN.2.1
  refine ⟨fun k => [c0, c1, c2, c3, c4, c5, c6, c7, c8, c9, c10, c11, c12].getD k c0, fun k => [iS0, iS1, iS2, iS3, iS4, iS5, iS6, iS7, iS8, iS9, iS10, iS11, iS12].getD k iS0, fun k => [a0, a1, a2, a3, a4, a5, a6, a7, a8].getD k a0, fun k q hq => ?_, fun k q hq => ?_⟩
  · match k, hq with
    | 0, hq => cases hq; exact hKn0
    | 1, hq => cases hq; exact hKn1
    | 2, hq => cases hq; exact hKn2
    | 3, hq => cases hq; exact hKn3
    | 4, hq => cases hq; exact hKn4
    | 5, hq => cases hq; exact hKn5
    | 6, hq => cases hq; exact hKn6
    | 7, hq => cases hq; exact hKn7
    | 8, hq => cases hq; exact hKn8
    | 9, hq => cases hq; exact hKn9
    | 10, hq => cases hq; exact hKn10
    | 11, hq => cases hq; exact hKn11
    | 12, hq => cases hq; exact hKn12
    | k + 13, hq => simp [vwCl] at hq
  · match k, hq with
    | 0, hq => cases hq; exact ⟨ha0, hr0⟩
    | 1, hq => cases hq; exact ⟨ha1, hr1⟩
    | 2, hq => cases hq; exact ⟨ha2, hr2⟩
    | 3, hq => cases hq; exact ⟨ha3, hr3⟩
    | 4, hq => cases hq; exact ⟨ha4, hr4⟩
    | 5, hq => cases hq; exact ⟨ha5, hr5⟩
    | 6, hq => cases hq; exact ⟨ha6, hr6⟩
    | 7, hq => cases hq; exact ⟨ha7, hr7⟩
    | 8, hq => cases hq; exact ⟨ha8, hr8⟩
    | k + 9, hq => simp [tyl] at hq
set_option maxHeartbeats 4000000 in
set_option maxRecDepth 100000 in
theorem whole_start {p : Program} {e : Env} {s : State} {m : MethodId} {below : List Frame} {meth : Method} {c : Code} (l : Launch) {b L : Nat} {xs : Nat → Int32} (hL : L ≤ 3072) (C0 : lw_At p s m meth c b L xs) : W p l e room_1 s m #[Value.ref b] below meth c s.heap [] 0 0 (lw_Z below #[Value.ref b] s) (entryFrame m ([Value.ref b] : List Value).toArray 4) := by
  obtain ⟨hx, hb, hr, hml, hown, hts, hX, hbl, hlocks, hgv⟩ := id C0
  have hown : s.vm.findClass RL = some m.cls := hown
  have hN := vz_nw hts
  obtain ⟨dC, dI, cy, hK⟩ := vz_known hts
  have hts := fun w h => hts w (wsL_law_in w h)
  obtain ⟨A, hAe⟩ : ∃ A : Nat → Prop, A = fun q : Nat => s.heap.size ≤ q := ⟨_, rfl⟩
  have hA : ∀ q : Nat, s.heap.size ≤ q → A q := by rw [hAe]; exact fun _ h => h
  have hbA : ¬ A b := by rw [hAe]; exact Nat.not_le.mpr hbl
  have hS : va_S A s.heap s.heap [] := va_S.rf
  have hP : va_P (dC, dI) vwCl [] s.heap := fun k q h => by simp at h
  have hD : va_D A [] := ⟨fun i j p q h => by simp at h, fun k q h => by simp at h⟩
  have hl := lv_entry ([.ref b]) (n := 4) (Nat.le_of_ble_eq_true rfl)
  rw [lg_entry_eq]
  generalize (lg_sl ([.ref b]) ++ List.replicate (4 - (lg_sl ([.ref b])).length) Slot.unset).toArray = ls at hl ⊢
  have hl : lv_has ls 4 [(0, .ref b)] := hl
  have hAl : ∀ a : Nat, a < s.heap.size → ¬ A a := fun a h => by rw [hAe]; exact Nat.not_le.mpr h
  obtain ⟨t, hZ, hT⟩ := ka_start hAl hgv C0.2.2.2.2.2.1
  refine va_new (ci := 11) (fs := [.null, .null, .null, .null, .null, .null, .int 0, .null, .null, .null, .null, .null, .null]) (C := RX11) (T := TX11) (N := 13) hx hb hts inlX11 tyX11 tyX11_ok hown (hts (.classLink RL 7 RX11) (by decide +kernel)) (hts (.instantiable RX11 13) (by decide +kernel)) (hts (.initialized RX11) (by decide +kernel)) hK hP hD hS hA rfl (fun j hj => vz_dfX11 j hj) (Nat.le_of_ble_eq_true rfl) (Nat.le_of_ble_eq_true rfl) dL_law_0 (fun q_1 H hP hD hS => ?_)
  refine W.widen (k := 1) (n := 13) (Nat.le_of_ble_eq_true rfl) (Nat.le_of_ble_eq_true rfl) ?_
  refine lv_dup hx hb dL_law_3 rfl ?_
  have hFc := fr_A hD hS hA
  refine va_callv (va_runI (As := []) (rest := [.ref q_1]) ⟨hx, hb, hml, hown, hts⟩ (i_SR l dC dI cy q_1 H.size) (cwI 0 hts gL_law_X11_init rfl rfl rfl (hts (.initialized RX11) (by decide +kernel)) (hts (.methodLink RL 9 yX11_init) (by decide +kernel)) (hts (.instanceMethod yX11_init) (by decide +kernel)) rfl (by decide +kernel) ⟨Nat.le_of_ble_eq_true rfl, Nat.le_of_ble_eq_true rfl⟩) (wp_S hK hN hP hD) rfl rfl hl.1 rfl (lv_room (Nat.le_of_ble_eq_true rfl)) dL_law_4 ⟨Nat.le_of_ble_eq_true rfl, Nat.le_of_ble_eq_true rfl⟩) hS (fun q _ h => hFc q h) hFc (fun u_2 t H1 locs ht hvm hw_2 hB hz1 hk1 hS => ?_)
  obtain ⟨hP1, hD1⟩ := hB
  rw [ht] at hP1
  obtain ⟨hP, hD⟩ := tb_fj (r := []) (by rw [List.append_nil]; exact hP) (by rw [List.append_nil]; exact hD) hk1 hFc hP1 hD1
  rw [List.append_nil] at hP hD
  generalize H1 = H at hP hS ⊢
  have hP := wSR_P (show va_P (dC, dI) vwCl (wSR cy q_1 u_2) H from hP)
  have hD := wSR_D (show va_D A (wSR cy q_1 u_2) from hD)
  refine W.widen (k := 188) (n := 7019) (Nat.le_of_ble_eq_true rfl) (Nat.le_of_ble_eq_true rfl) ?_
  refine lv_astore_n (lv' := [(1, .ref q_1), (0, .ref b)]) hx hb dL_law_7 rfl hl (by decide) rfl (fun ls hl => ?_)
  refine va_new (ci := 12) (fs := [.int 0, .null, .null, .int 0, .null, .null, .null, .null, .null, .int 0, .null, .null, .null, .null, .null, .null, .null, .null, .null, .null, .null, .null, .int 0, .null, .null, .null, .null, .null, .null, .int 0, .int 0, .null, .int 0, .null, .int 0, .null, .int 0, .null, .int 0, .null, .null, .null, .null, .null, .int 0, .int 0, .int 0, .int 0, .int 0, .int 0, .int 0, .int 0, .null, .int 0, .null, .int 0, .null, .null, .null]) (C := RX12) (T := TX12) (N := 59) hx hb hts inlX12 tyX12 tyX12_ok hown (hts (.classLink RL 10 RX12) (by decide +kernel)) (hts (.instantiable RX12 59) (by decide +kernel)) (hts (.initialized RX12) (by decide +kernel)) hK hP hD hS hA rfl (fun j hj => vz_dfX12 j hj) (Nat.le_of_ble_eq_true rfl) (Nat.le_of_ble_eq_true rfl) dL_law_8 (fun q_3 H hP hD hS => ?_)
  have hP := tb_swP hP
  have hD := tb_swD hD
  refine W.widen (k := 189) (n := 7078) (Nat.le_of_ble_eq_true rfl) (Nat.le_of_ble_eq_true rfl) ?_
  refine lv_dup hx hb dL_law_11 rfl ?_
  have hPc := tb_lP hP
  have hDc := tb_lD hD
  have hFc := fr_A hDc hS hA
  refine va_callv (va_runI (As := []) (rest := [.ref q_3]) ⟨hx, hb, hml, hown, hts⟩ (i_M l dC dI cy q_3 H.size) (cwI 0 hts gL_law_X12_init rfl rfl rfl (hts (.initialized RX12) (by decide +kernel)) (hts (.methodLink RL 12 yX12_init) (by decide +kernel)) (hts (.instanceMethod yX12_init) (by decide +kernel)) rfl (by decide +kernel) ⟨Nat.le_of_ble_eq_true rfl, Nat.le_of_ble_eq_true rfl⟩) (wp_S hK hN hPc hDc) rfl rfl hl.1 rfl (lv_room (Nat.le_of_ble_eq_true rfl)) dL_law_12 ⟨Nat.le_of_ble_eq_true rfl, Nat.le_of_ble_eq_true rfl⟩) hS (fun q _ h => hFc q h) hFc (fun u_4 t H1 locs ht hvm hw_4 hB hz1 hk1 hS => ?_)
  obtain ⟨hP1, hD1⟩ := hB
  rw [ht] at hP1
  have hP1 := wSM_P (show va_P (dC, dI) vwCl (wSM cy q_3 u_4) H1 from hP1)
  have hD1 := wSM_D (show va_D _ (wSM cy q_3 u_4) from hD1)
  obtain ⟨hP, hD⟩ := tb_fj hP hD hk1 hFc hP1 hD1
  generalize H1 = H at hP hS ⊢
  have hP := tb_swP hP
  have hD := tb_swD hD
  refine W.widen (k := 228) (n := 23896) (Nat.le_of_ble_eq_true rfl) (Nat.le_of_ble_eq_true rfl) ?_
  refine lv_astore_n (lv' := [(2, .ref q_3), (1, .ref q_1), (0, .ref b)]) hx hb dL_law_15 rfl hl (by decide) rfl (fun ls hl => ?_)
  refine lv_iconst (v := 0) hx hb dL_law_16 (by decide) ?_
  refine lv_istore_n (lv' := [(3, .int 0), (2, .ref q_3), (1, .ref q_1), (0, .ref b)]) hx hb dL_law_17 rfl hl (by decide) rfl (fun ls hl => ?_)
  exact law_loop C0 hL hAe hK hN hZ hT 513 0 0 (adC q_1 u_2) (adM q_3 u_4) stC stM H _ ls 228 23896 (by omega) (Nat.zero_le _) hP hD hS hl ivC0 ivM0 relL0 (by decide) (by decide)
