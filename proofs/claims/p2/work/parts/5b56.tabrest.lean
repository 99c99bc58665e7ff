set_option maxHeartbeats 4000000 in
set_option maxRecDepth 100000 in
theorem tab_rest (l : Launch) (dC : Nat → ClassId) (dI : Nat → Nat → Nat) (cy : Nat → ClassId) (ad : Nat → Nat) (τ nb : Nat) (hτ : τ < nb) (hnb : nb = τ + 2) (ad0 : Nat → Nat) (had : ∀ k, k < 182 + 6 * (τ + 1) → ad k = ad0 k) {p : Program} {e : Env} {s : State} {m : MethodId} {args : Array Value} {below : List Frame} {meth : Method} {c : Code} {H : Heap} {locs : List Loc} {ls : Array Slot} {A : Nat → Prop} {σ σ9 : S2} {x2 r0 : Int32} {δ : Nat} (hx : p.tables.exec = Jvm.exec) (hb : c.code = cX11_table) (hml : c.maxLocals = 6) (hr : meth.sig.returnType = some .int) (hlocks : meth.locks = false) (hown : s.vm.findClass RX11 = some m.cls) (hts : ∀ w ∈ wsX11_table, w.before args s = true) (hK : va_K (dC, dI) vwCl (tyl cy) s) (hN : NW s) (hP : va_P (dC, dI) vwCl (wG (cC cy ad τ) ad (182 + 6 * nb) σ) H) (hD : va_D A (wG (cC cy ad τ) ad (182 + 6 * nb) σ)) (hS : va_S A s.heap H locs) (hA : ∀ q : Nat, s.heap.size ≤ q → A q) (hl : lv_has ls 6 [(0, .ref (ad 0)), (2, .int x2), (5, .ref (ad (182 + 6 * (τ + 1))))]) (h : tabRest τ σ x2 = some (r0, δ, σ9)) : W p l e (headSpec wsX11_table ({ frames := 30, cells := 6, slots := 2117, locals := 738 })).room s m args below meth c H locs 6 2117 (MQ below (QT dC dI cy ad0 τ (τ + 1) r0 δ σ9 A) args s 6 2117 A) (F0 m 117 ls []) := by
  unfold tabRest at h
  refine lv_aload hx hb dX11_table_117 (lv_at hl 2 rfl) ?_
  refine lv_aload_n hx hb dX11_table_119 rfl (lv_at hl 0 rfl) ?_
  refine ux_get (D := (dC, dI)) (ci := 11) (v := .ref (ad 182)) (C := RX11) (T := TX11) (M := 13) (fs := (oSR ad (σ.1 0))) hx hb hts (fun _ h9 => List.mem_cons_of_mem _ (List.mem_append_left _ (List.mem_append_left _ (List.mem_append_left _ (List.mem_append_left _ (List.mem_append_right _ h9)))))) hown hK hP 0 (Nat.lt_of_lt_of_le (Nat.le_of_ble_eq_true rfl : 0 < 182) (Nat.le_add_right _ _)) (cC_0 _ _ _ _ _) rfl 7 (by decide) (hts (.fieldLink RX11 57 "SeatsRound" "draft" "LSeatsRound$Table;") (List.mem_of_getElem? (i := 4) rfl)) (fun _ h9 => h9) rfl dX11_table_120 ?_
  obtain ⟨r1, σ2, hf3, h⟩ := bsS h
  refine ux_callv (va_runV (As := [.ref (ad 182)]) (rest := []) ⟨hx, hb, hml, hown, hts⟩ (tX8_takeAll l dC dI cy ad τ nb hτ (τ + 1) (by omega) 0 (by omega) σ H.size r1 σ2 hf3) (cwV 1 hts gX11_table_X8_takeAll rfl rfl rfl (by decide +kernel) ⟨Nat.le_of_ble_eq_true rfl, Nat.le_of_ble_eq_true rfl⟩) (wp_V hK hN hP hD (va_recv hK hP (ci := 8) (q0 := (182 + 6 * (τ + 1))) rfl (wG_of (by omega) (cC_t0 _ _ _ _ _ (τ + 1))))) rfl rfl hl.1 rfl (lv_room (Nat.le_of_ble_eq_true rfl)) dX11_table_123 ⟨Nat.le_of_ble_eq_true rfl, Nat.le_of_ble_eq_true rfl⟩) hD hS hA (fun H locs hP hD hS => ?_)
  refine lv_aload hx hb dX11_table_126 (lv_at hl 2 rfl) ?_
  refine lv_iload_n hx hb dX11_table_128 rfl (lv_at hl 1 rfl) ?_
  obtain ⟨r4, σ5, hf6, h⟩ := bsS h
  refine ux_callv (va_runV (As := [.int x2]) (rest := []) ⟨hx, hb, hml, hown, hts⟩ (tX8_seatAll l dC dI cy ad τ nb hτ (τ + 1) (by omega) σ2 x2 H.size r4 σ5 hf6) (cwV 1 hts gX11_table_X8_seatAll rfl rfl rfl (by decide +kernel) ⟨Nat.le_of_ble_eq_true rfl, Nat.le_of_ble_eq_true rfl⟩) (wp_V hK hN hP hD (va_recv hK hP (ci := 8) (q0 := (182 + 6 * (τ + 1))) rfl (wG_of (by omega) (cC_t0 _ _ _ _ _ (τ + 1))))) rfl rfl hl.1 rfl (lv_room (Nat.le_of_ble_eq_true rfl)) dX11_table_129 ⟨Nat.le_of_ble_eq_true rfl, Nat.le_of_ble_eq_true rfl⟩) hD hS hA (fun H locs hP hD hS => ?_)
  refine lv_aload_n hx hb dX11_table_132 rfl (lv_at hl 0 rfl) ?_
  refine ux_get (D := (dC, dI)) (ci := 11) (v := .ref (ad 42)) (C := RX11) (T := TX11) (M := 13) (fs := (oSR ad (σ5.1 0))) hx hb hts (fun _ h9 => List.mem_cons_of_mem _ (List.mem_append_left _ (List.mem_append_left _ (List.mem_append_left _ (List.mem_append_left _ (List.mem_append_right _ h9)))))) hown hK hP 0 (Nat.lt_of_lt_of_le (Nat.le_of_ble_eq_true rfl : 0 < 182) (Nat.le_add_right _ _)) (cC_0 _ _ _ _ _) rfl 5 (by decide) (hts (.fieldLink RX11 48 "SeatsRound" "tables" "[LSeatsRound$Table;") (List.mem_of_getElem? (i := 12) rfl)) (fun _ h9 => h9) rfl dX11_table_133 ?_
  refine lv_aload_n hx hb dX11_table_136 rfl (lv_at hl 0 rfl) ?_
  refine ux_get (D := (dC, dI)) (ci := 11) (v := .int (σ5.1 0 6)) (C := RX11) (T := TX11) (M := 13) (fs := (oSR ad (σ5.1 0))) hx hb hts (fun _ h9 => List.mem_cons_of_mem _ (List.mem_append_left _ (List.mem_append_left _ (List.mem_append_left _ (List.mem_append_left _ (List.mem_append_right _ h9)))))) hown hK hP 0 (Nat.lt_of_lt_of_le (Nat.le_of_ble_eq_true rfl : 0 < 182) (Nat.le_add_right _ _)) (cC_0 _ _ _ _ _) rfl 6 (by decide) (hts (.fieldLink RX11 52 "SeatsRound" "tableCount" "I") (List.mem_of_getElem? (i := 3) rfl)) (fun _ h9 => h9) rfl dX11_table_137 ?_
  refine lv_aload hx hb dX11_table_140 (lv_at hl 2 rfl) ?_
  obtain ⟨hi9, h⟩ := ckS h
  have hc9 : Int32.toNatClampNeg (σ5.1 0 6) = τ := by
    by_cases q9 : Int32.toNatClampNeg (σ5.1 0 6) = τ
    · exact q9
    · rw [if_neg q9] at h; cases h
  rw [if_pos hc9] at h
  refine va_astq hx hb hK hP hD hS 42 8 (182 + 6 * (τ + 1)) 8 (wG_of (Nat.lt_of_lt_of_le (Nat.le_of_ble_eq_true rfl : 42 < 182) (Nat.le_add_right _ _)) (cC_42 _ _ _ _ _)) rfl (wG_of (by omega) (cC_t0 _ _ _ _ _ (τ + 1))) rfl hi9 dX11_table_142 (fun H locs hP hD hS => ?_)
  have hP := tb_astP hc9 (by omega) hP
  have hD := tb_astD hc9 (by omega) hD
  refine lv_aload_n hx hb dX11_table_143 rfl (lv_at hl 0 rfl) ?_
  refine lv_dup hx hb dX11_table_144 rfl ?_
  refine ux_get (D := (dC, dI)) (ci := 11) (v := .int (σ5.1 0 6)) (C := RX11) (T := TX11) (M := 13) (fs := (oSR ad (σ5.1 0))) hx hb hts (fun _ h9 => List.mem_cons_of_mem _ (List.mem_append_left _ (List.mem_append_left _ (List.mem_append_left _ (List.mem_append_left _ (List.mem_append_right _ h9)))))) hown hK hP 0 (Nat.lt_of_lt_of_le (Nat.le_of_ble_eq_true rfl : 0 < 182) (Nat.le_add_right _ _)) (cC_0 _ _ _ _ _) rfl 6 (by decide) (hts (.fieldLink RX11 52 "SeatsRound" "tableCount" "I") (List.mem_of_getElem? (i := 3) rfl)) (fun _ h9 => h9) rfl dX11_table_145 ?_
  refine lv_iconst (v := 1) hx hb dX11_table_148 (by decide) ?_
  refine lv_iadd hx hb dX11_table_149 ?_
  refine ux_put (D := (dC, dI)) (ci := 11) (C := RX11) (T := TX11) (M := 13) (fs := (oSR ad (σ5.1 0))) hx hb hts (fun _ h9 => List.mem_cons_of_mem _ (List.mem_append_left _ (List.mem_append_left _ (List.mem_append_left _ (List.mem_append_left _ (List.mem_append_right _ h9)))))) tyX11 tyX11_ok nmX11 hown hK hP hD hS 0 (Nat.lt_of_lt_of_le (Nat.le_of_ble_eq_true rfl : 0 < 182) (Nat.le_add_right _ _)) (cC_0 _ _ _ _ _) rfl 6 (by decide) (hts (.fieldLink RX11 52 "SeatsRound" "tableCount" "I") (List.mem_of_getElem? (i := 3) rfl)) (fun _ h9 => h9) rfl (tyX11_ok 6 (by decide)) rfl rfl (Nat.le_of_ble_eq_true rfl) (oC_0_6 _ _ _ _ _ _) h dX11_table_150 (fun σ7 H locs h hP hD hS => ?_)
  refine lv_aload_n hx hb dX11_table_153 rfl (lv_at hl 0 rfl) ?_
  refine ux_get (D := (dC, dI)) (ci := 11) (v := .int (σ7.1 0 6)) (C := RX11) (T := TX11) (M := 13) (fs := (oSR ad (σ7.1 0))) hx hb hts (fun _ h9 => List.mem_cons_of_mem _ (List.mem_append_left _ (List.mem_append_left _ (List.mem_append_left _ (List.mem_append_left _ (List.mem_append_right _ h9)))))) hown hK hP 0 (Nat.lt_of_lt_of_le (Nat.le_of_ble_eq_true rfl : 0 < 182) (Nat.le_add_right _ _)) (cC_0 _ _ _ _ _) rfl 6 (by decide) (hts (.fieldLink RX11 52 "SeatsRound" "tableCount" "I") (List.mem_of_getElem? (i := 3) rfl)) (fun _ h9 => h9) rfl dX11_table_154 ?_
  refine lv_iconst (v := 1) hx hb dX11_table_157 (by decide) ?_
  refine lv_isub hx hb dX11_table_158 ?_
  subst hnb
  exact ux_iretU had hx hb hr h hP hD hS hlocks dX11_table_159
