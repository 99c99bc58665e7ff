set_option maxHeartbeats 4000000 in
set_option maxRecDepth 100000 in
theorem c_M_in (l : Launch) (dC : Nat → ClassId) (dI : Nat → Nat → Nat) (cy : Nat → ClassId) (p0 : Int32) (p1 : Int32) (p2 : Int32) (sz : Nat)  : Met l yX12_in wsX12_in ({ frames := 1, cells := 0, slots := 0, locals := 23 }) (va_Pc [.int p0, .int p1, .int p2] (wPre (dC, dI) cy [] sz)) (vp_Si (fun r => (p1.toInt ≤ p0.toInt ∧ p0.toInt ≤ p2.toInt) ∧ r = 1 ∨ ¬ (p1.toInt ≤ p0.toInt ∧ p0.toInt ≤ p2.toInt) ∧ r = 0)) 0 0 (fun _ => False) := by
  refine Met.ofW (cc := cX12_in) (maxL := 3) (ret := (some .boolean)) (by decide) rfl ?_
  intro p e s m args below meth c s₁ B hml hv
  obtain ⟨rfl, hsz, hP, hK, hD0, hN⟩ := hv
  have hx := B.exec
  have hb := B.bytes
  have hr := B.returns
  have hts := atoms_spec (ws := wsX12_in) B.pre
  have hown : s.vm.findClass RX12 = some m.cls := findClass_of_methodNamed B.named
  have hlocks := B.notSynchronized
  subst hsz
  have hl := lv_entry ([.int p0, .int p1, .int p2]) (n := 3) (Nat.le_of_ble_eq_true rfl)
  rw [lg_entry_eq]
  generalize (lg_sl ([.int p0, .int p1, .int p2]) ++ List.replicate (3 - (lg_sl ([.int p0, .int p1, .int p2])).length) Slot.unset).toArray = ls at hl ⊢
  have hl : lv_has ls 3 [(0, .int p0), (1, .int p1), (2, .int p2)] := hl
  refine lv_iload_n hx hb dX12_in_0 rfl (lv_at hl 0 rfl) ?_
  refine lv_iload_n hx hb dX12_in_1 rfl (lv_at hl 1 rfl) ?_
  refine lv_icmp_lt (tgt := 14) hx hb dX12_in_2 (by decide) (fun c_1 => ?_) (fun c_1 => ?_)
  · have ic_1 : p0.toInt < p1.toInt := Int32.lt_iff_toInt_lt.mp c_1
    refine lv_iconst (v := 0) hx hb dX12_in_14 (by decide) ?_
    exact W.zret (v := 0) hx hb hr rfl (fun t ht hW => ⟨0, rfl, (Or.inr ⟨by omega, rfl⟩), ht⟩) (fun q h => by cases h) dX12_in_15
  · have ic_1 : ¬ p0.toInt < p1.toInt := fun h9 => c_1 (Int32.lt_iff_toInt_lt.mpr h9)
    refine lv_iload_n hx hb dX12_in_5 rfl (lv_at hl 0 rfl) ?_
    refine lv_iload_n hx hb dX12_in_6 rfl (lv_at hl 2 rfl) ?_
    refine lv_icmp_gt (tgt := 14) hx hb dX12_in_7 (by decide) (fun c_2 => ?_) (fun c_2 => ?_)
    · have ic_2 : p2.toInt < p0.toInt := Int32.lt_iff_toInt_lt.mp c_2
      refine lv_iconst (v := 0) hx hb dX12_in_14 (by decide) ?_
      exact W.zret (v := 0) hx hb hr rfl (fun t ht hW => ⟨0, rfl, (Or.inr ⟨by omega, rfl⟩), ht⟩) (fun q h => by cases h) dX12_in_15
    · have ic_2 : ¬ p2.toInt < p0.toInt := fun h9 => c_2 (Int32.lt_iff_toInt_lt.mpr h9)
      refine lv_iconst (v := 1) hx hb dX12_in_10 (by decide) ?_
      refine lv_goto (tgt := 15) hx hb dX12_in_11 (by decide) ?_
      exact W.zret (v := 1) hx hb hr rfl (fun t ht hW => ⟨1, rfl, (Or.inl ⟨by omega, rfl⟩), ht⟩) (fun q h => by cases h) dX12_in_15
set_option maxHeartbeats 4000000 in
set_option maxRecDepth 100000 in
theorem c_M_isName (l : Launch) (dC : Nat → ClassId) (dI : Nat → Nat → Nat) (cy : Nat → ClassId) (h0 : Nat) (m1 : Nat) (m2 : Nat) (m4 : Nat) (m5 : Nat) (m6 : Nat) (m7 : Nat) (m8 : Nat) (m10 : Nat) (m11 : Nat) (m12 : Nat) (m13 : Nat) (m14 : Nat) (m15 : Nat) (m16 : Nat) (m17 : Nat) (m18 : Nat) (m19 : Nat) (m20 : Nat) (m21 : Nat) (m23 : Nat) (m24 : Nat) (m25 : Nat) (m26 : Nat) (m27 : Nat) (m28 : Nat) (m31 : Nat) (m33 : Nat) (m35 : Nat) (m37 : Nat) (m39 : Nat) (m40 : Nat) (m41 : Nat) (m42 : Nat) (m43 : Nat) (m52 : Nat) (m54 : Nat) (m56 : Nat) (m57 : Nat) (m58 : Nat) (p0 : Int32) (sz : Nat)  : Met l yX12_isName wsX12_isName ({ frames := 2, cells := 0, slots := 0, locals := 45 }) (va_Pc [.ref h0, .int p0] (wPre (dC, dI) cy [(h0, .inr (12, [.int 0, .ref m1, .ref m2, .int 0, .ref m4, .ref m5, .ref m6, .ref m7, .ref m8, .int 0, .ref m10, .ref m11, .ref m12, .ref m13, .ref m14, .ref m15, .ref m16, .ref m17, .ref m18, .ref m19, .ref m20, .ref m21, .int 0, .ref m23, .ref m24, .ref m25, .ref m26, .ref m27, .ref m28, .int 0, .int 0, .ref m31, .int 0, .ref m33, .int 0, .ref m35, .int (-1), .ref m37, .int 0, .ref m39, .ref m40, .ref m41, .ref m42, .ref m43, .int 0, .int 0, .int 0, .int 0, .int 0, .int 0, .int 0, .int 0, .ref m52, .int 0, .ref m54, .int 0, .ref m56, .ref m57, .ref m58]))] sz)) (vp_Si (fun r => r = 0)) 0 0 (fun _ => False) := by
  refine Met.ofW (cc := cX12_isName) (maxL := 2) (ret := (some .boolean)) (by decide) rfl ?_
  intro p e s m args below meth c s₁ B hml hv
  obtain ⟨rfl, hsz, hP, hK, hD0, hN⟩ := hv
  have hx := B.exec
  have hb := B.bytes
  have hr := B.returns
  have hts := atoms_spec (ws := wsX12_isName) B.pre
  have hown : s.vm.findClass RX12 = some m.cls := findClass_of_methodNamed B.named
  have hlocks := B.notSynchronized
  subst hsz
  have hl := lv_entry ([.ref h0, .int p0]) (n := 2) (Nat.le_of_ble_eq_true rfl)
  rw [lg_entry_eq]
  generalize (lg_sl ([.ref h0, .int p0]) ++ List.replicate (2 - (lg_sl ([.ref h0, .int p0])).length) Slot.unset).toArray = ls at hl ⊢
  have hl : lv_has ls 2 [(0, .ref h0), (1, .int p0)] := hl
  refine lv_iload_n hx hb dX12_isName_0 rfl (lv_at hl 1 rfl) ?_
  refine lv_iconst (v := 0) hx hb dX12_isName_1 (by decide) ?_
  change W _ _ _ _ _ _ _ _ _ _ _ _ _ _ _ (F0 m 2 ls [.int 0, .int p0])
  refine lv_aload_n hx hb dX12_isName_2 rfl (lv_at hl 0 rfl) ?_
  refine va_get (D := (dC, dI)) (ci := 12) (v := .int 0) (C := RX12) (T := TX12) (N := 59) hx hb hts (fun _ h9 => List.mem_cons_of_mem _ (List.mem_append_right _ h9)) hown hK hP 0 rfl rfl 0 (by decide) (hts (.fieldLink RX12 133 "SeatsRoundModel" "names" "I") (List.mem_of_getElem? (i := 1) rfl)) (fun _ h9 => h9) rfl dX12_isName_3 ?_
  refine lv_iconst (v := 1) hx hb dX12_isName_6 (by decide) ?_
  refine lv_isub hx hb dX12_isName_7 ?_
  refine lv_topi (fun f_1 ef_1 => ?_)
  obtain rfl : f_1 = (-1) := ef_1.trans (by decide)
  have hPc := hP.sub (ws' := []) [] rfl
  have hDc := hD0.sub (ws' := []) [] (by decide) rfl
  refine vz_callSi (va_runS (As := [.int p0, .int 0, .int (-1)]) (rest := []) ⟨hx, hb, hml, hown, hts⟩ (c_M_in l dC dI cy p0 0 (-1) s.heap.size) (va_cwS 3 hts gX12_isName_X12_in rfl rfl rfl (by decide +kernel) ⟨Nat.le_of_ble_eq_true rfl, Nat.le_of_ble_eq_true rfl⟩) (wp_S hK hN hPc hDc) rfl rfl hl.1 rfl (lv_room (Nat.le_of_ble_eq_true rfl)) dX12_isName_8 ⟨Nat.le_of_ble_eq_true rfl, Nat.le_of_ble_eq_true rfl⟩) (fun r_2 hw_2 => ?_)
  rcases hw_2 with ⟨c_2, hw_2⟩ | ⟨c_2, hw_2⟩ <;> subst hw_2
  · have ic_2 : (0 : Int) ≤ p0.toInt ∧ p0.toInt ≤ (-1 : Int) := c_2
    exact absurd True.intro (by omega)
  · have ic_2 : ¬ ((0 : Int) ≤ p0.toInt ∧ p0.toInt ≤ (-1 : Int)) := c_2
    exact W.zret (v := 0) hx hb hr rfl (fun t ht hW => ⟨0, rfl, (by first | rfl | (exfalso; omega)), ht⟩) (fun q h => by cases h) dX12_isName_11
set_option maxHeartbeats 4000000 in
set_option maxRecDepth 100000 in
theorem c_M_isKeeper (l : Launch) (dC : Nat → ClassId) (dI : Nat → Nat → Nat) (cy : Nat → ClassId) (h0 : Nat) (m1 : Nat) (m2 : Nat) (m4 : Nat) (m5 : Nat) (m6 : Nat) (m7 : Nat) (m8 : Nat) (m10 : Nat) (m11 : Nat) (m12 : Nat) (m13 : Nat) (m14 : Nat) (m15 : Nat) (m16 : Nat) (m17 : Nat) (m18 : Nat) (m19 : Nat) (m20 : Nat) (m21 : Nat) (m23 : Nat) (m24 : Nat) (m25 : Nat) (m26 : Nat) (m27 : Nat) (m28 : Nat) (m31 : Nat) (m33 : Nat) (m35 : Nat) (m37 : Nat) (m39 : Nat) (m40 : Nat) (m41 : Nat) (m42 : Nat) (m43 : Nat) (m52 : Nat) (m54 : Nat) (m56 : Nat) (m57 : Nat) (m58 : Nat) (p0 : Int32) (sz : Nat)  : Met l yX12_isKeeper wsX12_isKeeper ({ frames := 2, cells := 0, slots := 0, locals := 45 }) (va_Pc [.ref h0, .int p0] (wPre (dC, dI) cy [(h0, .inr (12, [.int 0, .ref m1, .ref m2, .int 0, .ref m4, .ref m5, .ref m6, .ref m7, .ref m8, .int 0, .ref m10, .ref m11, .ref m12, .ref m13, .ref m14, .ref m15, .ref m16, .ref m17, .ref m18, .ref m19, .ref m20, .ref m21, .int 0, .ref m23, .ref m24, .ref m25, .ref m26, .ref m27, .ref m28, .int 0, .int 0, .ref m31, .int 0, .ref m33, .int 0, .ref m35, .int (-1), .ref m37, .int 0, .ref m39, .ref m40, .ref m41, .ref m42, .ref m43, .int 0, .int 0, .int 0, .int 0, .int 0, .int 0, .int 0, .int 0, .ref m52, .int 0, .ref m54, .int 0, .ref m56, .ref m57, .ref m58]))] sz)) (vp_Si (fun r => r = 0)) 0 0 (fun _ => False) := by
  refine Met.ofW (cc := cX12_isKeeper) (maxL := 2) (ret := (some .boolean)) (by decide) rfl ?_
  intro p e s m args below meth c s₁ B hml hv
  obtain ⟨rfl, hsz, hP, hK, hD0, hN⟩ := hv
  have hx := B.exec
  have hb := B.bytes
  have hr := B.returns
  have hts := atoms_spec (ws := wsX12_isKeeper) B.pre
  have hown : s.vm.findClass RX12 = some m.cls := findClass_of_methodNamed B.named
  have hlocks := B.notSynchronized
  subst hsz
  have hl := lv_entry ([.ref h0, .int p0]) (n := 2) (Nat.le_of_ble_eq_true rfl)
  rw [lg_entry_eq]
  generalize (lg_sl ([.ref h0, .int p0]) ++ List.replicate (2 - (lg_sl ([.ref h0, .int p0])).length) Slot.unset).toArray = ls at hl ⊢
  have hl : lv_has ls 2 [(0, .ref h0), (1, .int p0)] := hl
  refine lv_iload_n hx hb dX12_isKeeper_0 rfl (lv_at hl 1 rfl) ?_
  refine lv_iconst (v := 0) hx hb dX12_isKeeper_1 (by decide) ?_
  refine lv_aload_n hx hb dX12_isKeeper_2 rfl (lv_at hl 0 rfl) ?_
  refine va_get (D := (dC, dI)) (ci := 12) (v := .int 0) (C := RX12) (T := TX12) (N := 59) hx hb hts (fun _ h9 => List.mem_cons_of_mem _ (List.mem_append_right _ h9)) hown hK hP 0 rfl rfl 3 (by decide) (hts (.fieldLink RX12 140 "SeatsRoundModel" "keepers" "I") (List.mem_of_getElem? (i := 1) rfl)) (fun _ h9 => h9) rfl dX12_isKeeper_3 ?_
  refine lv_iconst (v := 1) hx hb dX12_isKeeper_6 (by decide) ?_
  refine lv_isub hx hb dX12_isKeeper_7 ?_
  refine lv_topi (fun f_1 ef_1 => ?_)
  obtain rfl : f_1 = (-1) := ef_1.trans (by decide)
  change W _ _ _ _ _ _ _ _ _ _ _ _ _ _ _ (F0 m 8 ls [.int (-1), .int 0, .int p0])
  have hPc := hP.sub (ws' := []) [] rfl
  have hDc := hD0.sub (ws' := []) [] (by decide) rfl
  refine vz_callSi (va_runS (As := [.int p0, .int 0, .int (-1)]) (rest := []) ⟨hx, hb, hml, hown, hts⟩ (c_M_in l dC dI cy p0 0 (-1) s.heap.size) (va_cwS 3 hts gX12_isKeeper_X12_in rfl rfl rfl (by decide +kernel) ⟨Nat.le_of_ble_eq_true rfl, Nat.le_of_ble_eq_true rfl⟩) (wp_S hK hN hPc hDc) rfl rfl hl.1 rfl (lv_room (Nat.le_of_ble_eq_true rfl)) dX12_isKeeper_8 ⟨Nat.le_of_ble_eq_true rfl, Nat.le_of_ble_eq_true rfl⟩) (fun r_2 hw_2 => ?_)
  rcases hw_2 with ⟨c_2, hw_2⟩ | ⟨c_2, hw_2⟩ <;> subst hw_2
  · have ic_2 : (0 : Int) ≤ p0.toInt ∧ p0.toInt ≤ (-1 : Int) := c_2
    exact absurd True.intro (by omega)
  · have ic_2 : ¬ ((0 : Int) ≤ p0.toInt ∧ p0.toInt ≤ (-1 : Int)) := c_2
    exact W.zret (v := 0) hx hb hr rfl (fun t ht hW => ⟨0, rfl, (by first | rfl | (exfalso; omega)), ht⟩) (fun q h => by cases h) dX12_isKeeper_11
set_option maxHeartbeats 4000000 in
set_option maxRecDepth 100000 in
theorem c_M_isTable (l : Launch) (dC : Nat → ClassId) (dI : Nat → Nat → Nat) (cy : Nat → ClassId) (h0 : Nat) (m1 : Nat) (m2 : Nat) (m4 : Nat) (m5 : Nat) (m6 : Nat) (m7 : Nat) (m8 : Nat) (m10 : Nat) (m11 : Nat) (m12 : Nat) (m13 : Nat) (m14 : Nat) (m15 : Nat) (m16 : Nat) (m17 : Nat) (m18 : Nat) (m19 : Nat) (m20 : Nat) (m21 : Nat) (m23 : Nat) (m24 : Nat) (m25 : Nat) (m26 : Nat) (m27 : Nat) (m28 : Nat) (m31 : Nat) (m33 : Nat) (m35 : Nat) (m37 : Nat) (m39 : Nat) (m40 : Nat) (m41 : Nat) (m42 : Nat) (m43 : Nat) (m52 : Nat) (m54 : Nat) (m56 : Nat) (m57 : Nat) (m58 : Nat) (p0 : Int32) (sz : Nat)  : Met l yX12_isTable wsX12_isTable ({ frames := 2, cells := 0, slots := 0, locals := 45 }) (va_Pc [.ref h0, .int p0] (wPre (dC, dI) cy [(h0, .inr (12, [.int 0, .ref m1, .ref m2, .int 0, .ref m4, .ref m5, .ref m6, .ref m7, .ref m8, .int 0, .ref m10, .ref m11, .ref m12, .ref m13, .ref m14, .ref m15, .ref m16, .ref m17, .ref m18, .ref m19, .ref m20, .ref m21, .int 0, .ref m23, .ref m24, .ref m25, .ref m26, .ref m27, .ref m28, .int 0, .int 0, .ref m31, .int 0, .ref m33, .int 0, .ref m35, .int (-1), .ref m37, .int 0, .ref m39, .ref m40, .ref m41, .ref m42, .ref m43, .int 0, .int 0, .int 0, .int 0, .int 0, .int 0, .int 0, .int 0, .ref m52, .int 0, .ref m54, .int 0, .ref m56, .ref m57, .ref m58]))] sz)) (vp_Si (fun r => r = 0)) 0 0 (fun _ => False) := by
  refine Met.ofW (cc := cX12_isTable) (maxL := 2) (ret := (some .boolean)) (by decide) rfl ?_
  intro p e s m args below meth c s₁ B hml hv
  obtain ⟨rfl, hsz, hP, hK, hD0, hN⟩ := hv
  have hx := B.exec
  have hb := B.bytes
  have hr := B.returns
  have hts := atoms_spec (ws := wsX12_isTable) B.pre
  have hown : s.vm.findClass RX12 = some m.cls := findClass_of_methodNamed B.named
  have hlocks := B.notSynchronized
  subst hsz
  have hl := lv_entry ([.ref h0, .int p0]) (n := 2) (Nat.le_of_ble_eq_true rfl)
  rw [lg_entry_eq]
  generalize (lg_sl ([.ref h0, .int p0]) ++ List.replicate (2 - (lg_sl ([.ref h0, .int p0])).length) Slot.unset).toArray = ls at hl ⊢
  have hl : lv_has ls 2 [(0, .ref h0), (1, .int p0)] := hl
  refine lv_iload_n hx hb dX12_isTable_0 rfl (lv_at hl 1 rfl) ?_
  refine lv_iconst (v := 0) hx hb dX12_isTable_1 (by decide) ?_
  change W _ _ _ _ _ _ _ _ _ _ _ _ _ _ _ (F0 m 2 ls [.int 0, .int p0])
  refine lv_aload_n hx hb dX12_isTable_2 rfl (lv_at hl 0 rfl) ?_
  refine va_get (D := (dC, dI)) (ci := 12) (v := .int 0) (C := RX12) (T := TX12) (N := 59) hx hb hts (fun _ h9 => List.mem_cons_of_mem _ (List.mem_append_right _ h9)) hown hK hP 0 rfl rfl 9 (by decide) (hts (.fieldLink RX12 143 "SeatsRoundModel" "tables" "I") (List.mem_of_getElem? (i := 1) rfl)) (fun _ h9 => h9) rfl dX12_isTable_3 ?_
  refine lv_iconst (v := 1) hx hb dX12_isTable_6 (by decide) ?_
  refine lv_isub hx hb dX12_isTable_7 ?_
  refine lv_topi (fun f_1 ef_1 => ?_)
  obtain rfl : f_1 = (-1) := ef_1.trans (by decide)
  have hPc := hP.sub (ws' := []) [] rfl
  have hDc := hD0.sub (ws' := []) [] (by decide) rfl
  refine vz_callSi (va_runS (As := [.int p0, .int 0, .int (-1)]) (rest := []) ⟨hx, hb, hml, hown, hts⟩ (c_M_in l dC dI cy p0 0 (-1) s.heap.size) (va_cwS 3 hts gX12_isTable_X12_in rfl rfl rfl (by decide +kernel) ⟨Nat.le_of_ble_eq_true rfl, Nat.le_of_ble_eq_true rfl⟩) (wp_S hK hN hPc hDc) rfl rfl hl.1 rfl (lv_room (Nat.le_of_ble_eq_true rfl)) dX12_isTable_8 ⟨Nat.le_of_ble_eq_true rfl, Nat.le_of_ble_eq_true rfl⟩) (fun r_2 hw_2 => ?_)
  rcases hw_2 with ⟨c_2, hw_2⟩ | ⟨c_2, hw_2⟩ <;> subst hw_2
  · have ic_2 : (0 : Int) ≤ p0.toInt ∧ p0.toInt ≤ (-1 : Int) := c_2
    exact absurd True.intro (by omega)
  · have ic_2 : ¬ ((0 : Int) ≤ p0.toInt ∧ p0.toInt ≤ (-1 : Int)) := c_2
    exact W.zret (v := 0) hx hb hr rfl (fun t ht hW => ⟨0, rfl, (by first | rfl | (exfalso; omega)), ht⟩) (fun q h => by cases h) dX12_isTable_11
set_option maxHeartbeats 4000000 in
set_option maxRecDepth 100000 in
theorem c_M_isShelf (l : Launch) (dC : Nat → ClassId) (dI : Nat → Nat → Nat) (cy : Nat → ClassId) (p0 : Int32) (sz : Nat)  : Met l yX12_isShelf wsX12_isShelf ({ frames := 2, cells := 0, slots := 0, locals := 45 }) (va_Pc [.int p0] (wPre (dC, dI) cy [] sz)) (vp_Si (fun r => ((0 : Int) ≤ p0.toInt ∧ p0.toInt ≤ 5) ∧ r = 1 ∨ ¬ ((0 : Int) ≤ p0.toInt ∧ p0.toInt ≤ 5) ∧ r = 0)) 0 0 (fun _ => False) := by
  refine Met.ofW (cc := cX12_isShelf) (maxL := 1) (ret := (some .boolean)) (by decide) rfl ?_
  intro p e s m args below meth c s₁ B hml hv
  obtain ⟨rfl, hsz, hP, hK, hD0, hN⟩ := hv
  have hx := B.exec
  have hb := B.bytes
  have hr := B.returns
  have hts := atoms_spec (ws := wsX12_isShelf) B.pre
  have hown : s.vm.findClass RX12 = some m.cls := findClass_of_methodNamed B.named
  have hlocks := B.notSynchronized
  subst hsz
  have hl := lv_entry ([.int p0]) (n := 1) (Nat.le_of_ble_eq_true rfl)
  rw [lg_entry_eq]
  generalize (lg_sl ([.int p0]) ++ List.replicate (1 - (lg_sl ([.int p0])).length) Slot.unset).toArray = ls at hl ⊢
  have hl : lv_has ls 1 [(0, .int p0)] := hl
  refine lv_iload_n hx hb dX12_isShelf_0 rfl (lv_at hl 0 rfl) ?_
  change W _ _ _ _ _ _ _ _ _ _ _ _ _ _ _ (F0 m 1 ls [.int p0])
  refine lv_iconst (v := 0) hx hb dX12_isShelf_1 (by decide) ?_
  refine lv_iconst (v := 5) hx hb dX12_isShelf_2 (by decide) ?_
  have hPc := hP.sub (ws' := []) [] rfl
  have hDc := hD0.sub (ws' := []) [] (by decide) rfl
  refine vz_callSi (va_runS (As := [.int p0, .int 0, .int 5]) (rest := []) ⟨hx, hb, hml, hown, hts⟩ (c_M_in l dC dI cy p0 0 5 s.heap.size) (va_cwS 3 hts gX12_isShelf_X12_in rfl rfl rfl (by decide +kernel) ⟨Nat.le_of_ble_eq_true rfl, Nat.le_of_ble_eq_true rfl⟩) (wp_S hK hN hPc hDc) rfl rfl hl.1 rfl (lv_room (Nat.le_of_ble_eq_true rfl)) dX12_isShelf_3 ⟨Nat.le_of_ble_eq_true rfl, Nat.le_of_ble_eq_true rfl⟩) (fun r_1 hw_1 => ?_)
  rcases hw_1 with ⟨c_1, hw_1⟩ | ⟨c_1, hw_1⟩ <;> subst hw_1
  · have ic_1 : (0 : Int) ≤ p0.toInt ∧ p0.toInt ≤ (5 : Int) := c_1
    exact W.zret (v := 1) hx hb hr rfl (fun t ht hW => ⟨1, rfl, (Or.inl ⟨by omega, rfl⟩), ht⟩) (fun q h => by cases h) dX12_isShelf_6
  · have ic_1 : ¬ ((0 : Int) ≤ p0.toInt ∧ p0.toInt ≤ (5 : Int)) := c_1
    exact W.zret (v := 0) hx hb hr rfl (fun t ht hW => ⟨0, rfl, (Or.inr ⟨by omega, rfl⟩), ht⟩) (fun q h => by cases h) dX12_isShelf_6
set_option maxHeartbeats 4000000 in
set_option maxRecDepth 100000 in
theorem c_M_barred (l : Launch) (dC : Nat → ClassId) (dI : Nat → Nat → Nat) (cy : Nat → ClassId) (h0 : Nat) (m1 : Nat) (m2 : Nat) (m4 : Nat) (m5 : Nat) (m6 : Nat) (m7 : Nat) (m8 : Nat) (m10 : Nat) (m11 : Nat) (m12 : Nat) (m13 : Nat) (m14 : Nat) (m15 : Nat) (m16 : Nat) (m17 : Nat) (m18 : Nat) (m19 : Nat) (m20 : Nat) (m21 : Nat) (m23 : Nat) (m24 : Nat) (m25 : Nat) (m26 : Nat) (m27 : Nat) (m28 : Nat) (m31 : Nat) (m33 : Nat) (m35 : Nat) (m37 : Nat) (m39 : Nat) (m40 : Nat) (m41 : Nat) (m42 : Nat) (m43 : Nat) (m52 : Nat) (m54 : Nat) (m56 : Nat) (m57 : Nat) (m58 : Nat) (p0 : Int32) (p1 : Int32) (sz : Nat)  : Met l yX12_barred wsX12_barred ({ frames := 3, cells := 0, slots := 0, locals := 65 }) (va_Pc [.ref h0, .int p0, .int p1] (wPre (dC, dI) cy [(h0, .inr (12, [.int 0, .ref m1, .ref m2, .int 0, .ref m4, .ref m5, .ref m6, .ref m7, .ref m8, .int 0, .ref m10, .ref m11, .ref m12, .ref m13, .ref m14, .ref m15, .ref m16, .ref m17, .ref m18, .ref m19, .ref m20, .ref m21, .int 0, .ref m23, .ref m24, .ref m25, .ref m26, .ref m27, .ref m28, .int 0, .int 0, .ref m31, .int 0, .ref m33, .int 0, .ref m35, .int (-1), .ref m37, .int 0, .ref m39, .ref m40, .ref m41, .ref m42, .ref m43, .int 0, .int 0, .int 0, .int 0, .int 0, .int 0, .int 0, .int 0, .ref m52, .int 0, .ref m54, .int 0, .ref m56, .ref m57, .ref m58])), (m39, .inl (cy 0, 6, .inl (fun _ => (-1)))), (m40, .inl (cy 0, 6, .inl (fun _ => (-1))))] sz)) (vp_Si (fun r => ((0 : Int) ≤ p0.toInt ∧ p0.toInt ≤ 5) ∧ r = -11 ∨ ¬ ((0 : Int) ≤ p0.toInt ∧ p0.toInt ≤ 5) ∧ r = -1)) 0 0 (fun _ => False) := by
  refine Met.ofW (cc := cX12_barred) (maxL := 3) (ret := (some .int)) (by decide) rfl ?_
  intro p e s m args below meth c s₁ B hml hv
  obtain ⟨rfl, hsz, hP, hK, hD0, hN⟩ := hv
  have hx := B.exec
  have hb := B.bytes
  have hr := B.returns
  have hts := atoms_spec (ws := wsX12_barred) B.pre
  have hown : s.vm.findClass RX12 = some m.cls := findClass_of_methodNamed B.named
  have hlocks := B.notSynchronized
  subst hsz
  have hl := lv_entry ([.ref h0, .int p0, .int p1]) (n := 3) (Nat.le_of_ble_eq_true rfl)
  rw [lg_entry_eq]
  generalize (lg_sl ([.ref h0, .int p0, .int p1]) ++ List.replicate (3 - (lg_sl ([.ref h0, .int p0, .int p1])).length) Slot.unset).toArray = ls at hl ⊢
  have hl : lv_has ls 3 [(0, .ref h0), (1, .int p0), (2, .int p1)] := hl
  refine lv_iload_n hx hb dX12_barred_0 rfl (lv_at hl 1 rfl) ?_
  have hPc := hP.sub (ws' := []) [] rfl
  have hDc := hD0.sub (ws' := []) [] (by decide) rfl
  refine vz_callSi (va_runS (As := [.int p0]) (rest := []) ⟨hx, hb, hml, hown, hts⟩ (c_M_isShelf l dC dI cy p0 s.heap.size) (va_cwS 1 hts gX12_barred_X12_isShelf rfl rfl rfl (by decide +kernel) ⟨Nat.le_of_ble_eq_true rfl, Nat.le_of_ble_eq_true rfl⟩) (wp_S hK hN hPc hDc) rfl rfl hl.1 rfl (lv_room (Nat.le_of_ble_eq_true rfl)) dX12_barred_1 ⟨Nat.le_of_ble_eq_true rfl, Nat.le_of_ble_eq_true rfl⟩) (fun r_1 hw_1 => ?_)
  rcases hw_1 with ⟨c_1, hw_1⟩ | ⟨c_1, hw_1⟩ <;> subst hw_1
  · have ic_1 : 0 ≤ p0.toInt ∧ p0.toInt ≤ 5 := c_1
    refine lv_if_ne (tgt := 9) hx hb dX12_barred_4 (by decide) (fun _ => ?_) (fun c_2 => absurd c_2 (by decide))
    refine lv_aload_n hx hb dX12_barred_9 rfl (lv_at hl 0 rfl) ?_
    refine va_get (D := (dC, dI)) (ci := 12) (v := .ref m40) (C := RX12) (T := TX12) (N := 59) hx hb hts (fun _ h9 => List.mem_cons_of_mem _ (List.mem_append_right _ h9)) hown hK hP 0 rfl rfl 40 (by decide) (hts (.fieldLink RX12 105 "SeatsRoundModel" "shelfSort" "[I") (List.mem_of_getElem? (i := 1) rfl)) (fun _ h9 => h9) rfl dX12_barred_10 ?_
    refine lv_iload_n hx hb dX12_barred_13 rfl (lv_at hl 1 rfl) ?_
    refine va_iald hx hb hK hP 2 0 rfl rfl (vp_in_iff.mpr ⟨by omega, by omega⟩) dX12_barred_14 ?_
    refine lv_topi (fun f_3 ef_3 => ?_)
    obtain rfl : f_3 = (-1) := ef_3
    change W _ _ _ _ _ _ _ _ _ _ _ _ _ _ _ (F0 m 15 ls [.int (-1)])
    refine lv_if_ge (tgt := 35) hx hb dX12_barred_15 (by decide) (fun c_4 => absurd c_4 (by decide)) (fun _ => ?_)
    refine lv_aload_n hx hb dX12_barred_18 rfl (lv_at hl 0 rfl) ?_
    refine va_get (D := (dC, dI)) (ci := 12) (v := .ref m39) (C := RX12) (T := TX12) (N := 59) hx hb hts (fun _ h9 => List.mem_cons_of_mem _ (List.mem_append_right _ h9)) hown hK hP 0 rfl rfl 39 (by decide) (hts (.fieldLink RX12 102 "SeatsRoundModel" "shelfIs" "[I") (List.mem_of_getElem? (i := 2) rfl)) (fun _ h9 => h9) rfl dX12_barred_19 ?_
    refine lv_iload_n hx hb dX12_barred_22 rfl (lv_at hl 1 rfl) ?_
    refine va_iald hx hb hK hP 1 0 rfl rfl (vp_in_iff.mpr ⟨by omega, by omega⟩) dX12_barred_23 ?_
    refine lv_topi (fun f_5 ef_5 => ?_)
    obtain rfl : f_5 = (-1) := ef_5
    refine lv_if_ge (tgt := 32) hx hb dX12_barred_24 (by decide) (fun c_6 => absurd c_6 (by decide)) (fun _ => ?_)
    refine lv_bipush (v := (-11)) hx hb dX12_barred_27 (by decide) ?_
    refine lv_goto (tgt := 34) hx hb dX12_barred_29 (by decide) ?_
    exact W.iret (v := (-11)) hx hb hr (fun t ht hW => ⟨(-11), rfl, (Or.inl ⟨by omega, rfl⟩), ht⟩) (fun q h => by cases h) dX12_barred_34
  · have ic_1 : ¬ (0 ≤ p0.toInt ∧ p0.toInt ≤ 5) := c_1
    refine lv_if_ne (tgt := 9) hx hb dX12_barred_4 (by decide) (fun c_7 => absurd c_7 (by decide)) (fun _ => ?_)
    refine lv_iconst (v := (-1)) hx hb dX12_barred_7 (by decide) ?_
    exact W.iret (v := (-1)) hx hb hr (fun t ht hW => ⟨(-1), rfl, (Or.inr ⟨by omega, rfl⟩), ht⟩) (fun q h => by cases h) dX12_barred_8
