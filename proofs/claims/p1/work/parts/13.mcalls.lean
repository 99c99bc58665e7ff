set_option maxHeartbeats 4000000 in
set_option maxRecDepth 100000 in
theorem c_M_feed_bad (l : Launch) (dC : Nat → ClassId) (dI : Nat → Nat → Nat) (cy : Nat → ClassId) (h0 : Nat) (m1 : Nat) (m2 : Nat) (m4 : Nat) (m5 : Nat) (m6 : Nat) (m7 : Nat) (m8 : Nat) (m10 : Nat) (m11 : Nat) (m12 : Nat) (m13 : Nat) (m14 : Nat) (m15 : Nat) (m16 : Nat) (m17 : Nat) (m18 : Nat) (m19 : Nat) (m20 : Nat) (m21 : Nat) (m23 : Nat) (m24 : Nat) (m25 : Nat) (m26 : Nat) (m27 : Nat) (m28 : Nat) (m31 : Nat) (m33 : Nat) (m35 : Nat) (m37 : Nat) (m39 : Nat) (m40 : Nat) (m41 : Nat) (m42 : Nat) (m43 : Nat) (m52 : Nat) (m54 : Nat) (m56 : Nat) (m57 : Nat) (m58 : Nat) (p0 : Int32) (p1 : Int32) (sz : Nat) (hbad : p0.toInt < 1 ∨ 4 < p0.toInt) : Met l yX12_feed wsX12_feed ({ frames := 2, cells := 0, slots := 0, locals := 45 }) (va_Pc [.ref h0, .int p0, .int p1] (wPre (dC, dI) cy [(h0, .inr (12, [.int 0, .ref m1, .ref m2, .int 0, .ref m4, .ref m5, .ref m6, .ref m7, .ref m8, .int 0, .ref m10, .ref m11, .ref m12, .ref m13, .ref m14, .ref m15, .ref m16, .ref m17, .ref m18, .ref m19, .ref m20, .ref m21, .int 0, .ref m23, .ref m24, .ref m25, .ref m26, .ref m27, .ref m28, .int 0, .int 0, .ref m31, .int 0, .ref m33, .int 0, .ref m35, .int (-1), .ref m37, .int 0, .ref m39, .ref m40, .ref m41, .ref m42, .ref m43, .int 0, .int 0, .int 0, .int 0, .int 0, .int 0, .int 0, .int 0, .ref m52, .int 0, .ref m54, .int 0, .ref m56, .ref m57, .ref m58]))] sz)) (va_Qi (fun (r : Int32) (u : Unit) => r = -1) (fun (u : Unit) t => True) (va_A [(h0, .inr (12, [.int 0, .ref m1, .ref m2, .int 0, .ref m4, .ref m5, .ref m6, .ref m7, .ref m8, .int 0, .ref m10, .ref m11, .ref m12, .ref m13, .ref m14, .ref m15, .ref m16, .ref m17, .ref m18, .ref m19, .ref m20, .ref m21, .int 0, .ref m23, .ref m24, .ref m25, .ref m26, .ref m27, .ref m28, .int 0, .int 0, .ref m31, .int 0, .ref m33, .int 0, .ref m35, .int (-1), .ref m37, .int 0, .ref m39, .ref m40, .ref m41, .ref m42, .ref m43, .int 0, .int 0, .int 0, .int 0, .int 0, .int 0, .int 0, .int 0, .ref m52, .int 0, .ref m54, .int 0, .ref m56, .ref m57, .ref m58]))] sz)) 0 0 (va_A [(h0, .inr (12, [.int 0, .ref m1, .ref m2, .int 0, .ref m4, .ref m5, .ref m6, .ref m7, .ref m8, .int 0, .ref m10, .ref m11, .ref m12, .ref m13, .ref m14, .ref m15, .ref m16, .ref m17, .ref m18, .ref m19, .ref m20, .ref m21, .int 0, .ref m23, .ref m24, .ref m25, .ref m26, .ref m27, .ref m28, .int 0, .int 0, .ref m31, .int 0, .ref m33, .int 0, .ref m35, .int (-1), .ref m37, .int 0, .ref m39, .ref m40, .ref m41, .ref m42, .ref m43, .int 0, .int 0, .int 0, .int 0, .int 0, .int 0, .int 0, .int 0, .ref m52, .int 0, .ref m54, .int 0, .ref m56, .ref m57, .ref m58]))] sz) := by
  refine Met.ofW (cc := cX12_feed) (maxL := 4) (ret := (some .int)) (by decide) rfl ?_
  intro p e s m args below meth c s₁ B hml hv
  obtain ⟨rfl, hsz, hP, hK, hD0, hN⟩ := hv
  have hx := B.exec
  have hb := B.bytes
  have hr := B.returns
  have hts := atoms_spec (ws := wsX12_feed) B.pre
  have hown : s.vm.findClass RX12 = some m.cls := findClass_of_methodNamed B.named
  have hlocks := B.notSynchronized
  subst hsz
  have hD := hD0.self (sz := s.heap.size)
  generalize hAe : va_A [(h0, .inr (12, [.int 0, .ref m1, .ref m2, .int 0, .ref m4, .ref m5, .ref m6, .ref m7, .ref m8, .int 0, .ref m10, .ref m11, .ref m12, .ref m13, .ref m14, .ref m15, .ref m16, .ref m17, .ref m18, .ref m19, .ref m20, .ref m21, .int 0, .ref m23, .ref m24, .ref m25, .ref m26, .ref m27, .ref m28, .int 0, .int 0, .ref m31, .int 0, .ref m33, .int 0, .ref m35, .int (-1), .ref m37, .int 0, .ref m39, .ref m40, .ref m41, .ref m42, .ref m43, .int 0, .int 0, .int 0, .int 0, .int 0, .int 0, .int 0, .int 0, .ref m52, .int 0, .ref m54, .int 0, .ref m56, .ref m57, .ref m58]))] s.heap.size = A at hD ⊢
  have hA : ∀ q : Nat, s.heap.size ≤ q → A q := fun q h => by rw [← hAe]; exact Or.inr h
  have hS : va_S A s.heap s.heap [] := va_S.rf
  have hl := lv_entry ([.ref h0, .int p0, .int p1]) (n := 4) (Nat.le_of_ble_eq_true rfl)
  rw [lg_entry_eq]
  generalize (lg_sl ([.ref h0, .int p0, .int p1]) ++ List.replicate (4 - (lg_sl ([.ref h0, .int p0, .int p1])).length) Slot.unset).toArray = ls at hl ⊢
  have hl : lv_has ls 4 [(0, .ref h0), (1, .int p0), (2, .int p1)] := hl
  refine lv_iload_n hx hb dX12_feed_0 rfl (lv_at hl 1 rfl) ?_
  refine lv_iconst (v := 1) hx hb dX12_feed_1 (by decide) ?_
  refine lv_iconst (v := 4) hx hb dX12_feed_2 (by decide) ?_
  have hPc := hP.sub (ws' := []) [] rfl
  have hDc := hD.sub (ws' := []) [] (by decide) rfl
  refine vz_callSi (va_runS (As := [.int p0, .int 1, .int 4]) (rest := []) ⟨hx, hb, hml, hown, hts⟩ (c_M_in l dC dI cy p0 1 4 s.heap.size) (va_cwS 3 hts gX12_feed_X12_in rfl rfl rfl (by decide +kernel) ⟨Nat.le_of_ble_eq_true rfl, Nat.le_of_ble_eq_true rfl⟩) (wp_S hK hN hPc hDc) rfl rfl hl.1 rfl (lv_room (Nat.le_of_ble_eq_true rfl)) dX12_feed_3 ⟨Nat.le_of_ble_eq_true rfl, Nat.le_of_ble_eq_true rfl⟩) (fun r_1 hw_1 => ?_)
  rcases hw_1 with ⟨c_1, hw_1⟩ | ⟨c_1, hw_1⟩ <;> subst hw_1
  · have ic_1 : (1 : Int) ≤ p0.toInt ∧ p0.toInt ≤ (4 : Int) := c_1
    refine lv_if_ne (tgt := 11) hx hb dX12_feed_6 (by decide) (fun _ => ?_) (fun c_2 => absurd c_2 (by decide))
    exact absurd True.intro (by omega)
  · have ic_1 : ¬ ((1 : Int) ≤ p0.toInt ∧ p0.toInt ≤ (4 : Int)) := c_1
    refine lv_if_ne (tgt := 11) hx hb dX12_feed_6 (by decide) (fun c_3 => absurd c_3 (by decide)) (fun _ => ?_)
    refine lv_iconst (v := (-1)) hx hb dX12_feed_9 (by decide) ?_
    exact W.iret (v := (-1)) hx hb hr (fun t ht hW => ⟨⟨(-1), (), rfl, (by first | rfl | (exfalso; omega)), trivial⟩, hS.F ht⟩) hS.2.2 dX12_feed_10
set_option maxHeartbeats 4000000 in
set_option maxRecDepth 100000 in
theorem c_M_feed_1 (l : Launch) (dC : Nat → ClassId) (dI : Nat → Nat → Nat) (cy : Nat → ClassId) (h0 : Nat) (m1 : Nat) (m2 : Nat) (m4 : Nat) (m5 : Nat) (m6 : Nat) (m7 : Nat) (m8 : Nat) (m10 : Nat) (m11 : Nat) (m12 : Nat) (m13 : Nat) (m14 : Nat) (m15 : Nat) (m16 : Nat) (m17 : Nat) (m18 : Nat) (m19 : Nat) (m20 : Nat) (m21 : Nat) (m23 : Nat) (m24 : Nat) (m25 : Nat) (m26 : Nat) (m27 : Nat) (m28 : Nat) (m31 : Nat) (m33 : Nat) (m35 : Nat) (m37 : Nat) (m39 : Nat) (m40 : Nat) (m41 : Nat) (m42 : Nat) (m43 : Nat) (m52 : Nat) (m54 : Nat) (m56 : Nat) (m57 : Nat) (m58 : Nat) (p0 : Int32) (sz : Nat)  : Met l yX12_feed wsX12_feed ({ frames := 2, cells := 0, slots := 0, locals := 45 }) (va_Pc [.ref h0, .int 1, .int p0] (wPre (dC, dI) cy [(h0, .inr (12, [.int 0, .ref m1, .ref m2, .int 0, .ref m4, .ref m5, .ref m6, .ref m7, .ref m8, .int 0, .ref m10, .ref m11, .ref m12, .ref m13, .ref m14, .ref m15, .ref m16, .ref m17, .ref m18, .ref m19, .ref m20, .ref m21, .int 0, .ref m23, .ref m24, .ref m25, .ref m26, .ref m27, .ref m28, .int 0, .int 0, .ref m31, .int 0, .ref m33, .int 0, .ref m35, .int (-1), .ref m37, .int 0, .ref m39, .ref m40, .ref m41, .ref m42, .ref m43, .int 0, .int 0, .int 0, .int 0, .int 0, .int 0, .int 0, .int 0, .ref m52, .int 0, .ref m54, .int 0, .ref m56, .ref m57, .ref m58])), (m21, .inl (cy 0, 80, .inl (fun _ => 0)))] sz)) (va_Qi (fun (r : Int32) (u : Unit) => r = 1) (fun (u : Unit) t => True) (va_A [(h0, .inr (12, [.int 0, .ref m1, .ref m2, .int 0, .ref m4, .ref m5, .ref m6, .ref m7, .ref m8, .int 0, .ref m10, .ref m11, .ref m12, .ref m13, .ref m14, .ref m15, .ref m16, .ref m17, .ref m18, .ref m19, .ref m20, .ref m21, .int 0, .ref m23, .ref m24, .ref m25, .ref m26, .ref m27, .ref m28, .int 0, .int 0, .ref m31, .int 0, .ref m33, .int 0, .ref m35, .int (-1), .ref m37, .int 0, .ref m39, .ref m40, .ref m41, .ref m42, .ref m43, .int 0, .int 0, .int 0, .int 0, .int 0, .int 0, .int 0, .int 0, .ref m52, .int 0, .ref m54, .int 0, .ref m56, .ref m57, .ref m58])), (m21, .inl (cy 0, 80, .inl (fun _ => 0)))] sz)) 0 0 (va_A [(h0, .inr (12, [.int 0, .ref m1, .ref m2, .int 0, .ref m4, .ref m5, .ref m6, .ref m7, .ref m8, .int 0, .ref m10, .ref m11, .ref m12, .ref m13, .ref m14, .ref m15, .ref m16, .ref m17, .ref m18, .ref m19, .ref m20, .ref m21, .int 0, .ref m23, .ref m24, .ref m25, .ref m26, .ref m27, .ref m28, .int 0, .int 0, .ref m31, .int 0, .ref m33, .int 0, .ref m35, .int (-1), .ref m37, .int 0, .ref m39, .ref m40, .ref m41, .ref m42, .ref m43, .int 0, .int 0, .int 0, .int 0, .int 0, .int 0, .int 0, .int 0, .ref m52, .int 0, .ref m54, .int 0, .ref m56, .ref m57, .ref m58])), (m21, .inl (cy 0, 80, .inl (fun _ => 0)))] sz) := by
  refine Met.ofW (cc := cX12_feed) (maxL := 4) (ret := (some .int)) (by decide) rfl ?_
  intro p e s m args below meth c s₁ B hml hv
  obtain ⟨rfl, hsz, hP, hK, hD0, hN⟩ := hv
  have hx := B.exec
  have hb := B.bytes
  have hr := B.returns
  have hts := atoms_spec (ws := wsX12_feed) B.pre
  have hown : s.vm.findClass RX12 = some m.cls := findClass_of_methodNamed B.named
  have hlocks := B.notSynchronized
  subst hsz
  have hD := hD0.self (sz := s.heap.size)
  generalize hAe : va_A [(h0, .inr (12, [.int 0, .ref m1, .ref m2, .int 0, .ref m4, .ref m5, .ref m6, .ref m7, .ref m8, .int 0, .ref m10, .ref m11, .ref m12, .ref m13, .ref m14, .ref m15, .ref m16, .ref m17, .ref m18, .ref m19, .ref m20, .ref m21, .int 0, .ref m23, .ref m24, .ref m25, .ref m26, .ref m27, .ref m28, .int 0, .int 0, .ref m31, .int 0, .ref m33, .int 0, .ref m35, .int (-1), .ref m37, .int 0, .ref m39, .ref m40, .ref m41, .ref m42, .ref m43, .int 0, .int 0, .int 0, .int 0, .int 0, .int 0, .int 0, .int 0, .ref m52, .int 0, .ref m54, .int 0, .ref m56, .ref m57, .ref m58])), (m21, .inl (cy 0, 80, .inl (fun _ => 0)))] s.heap.size = A at hD ⊢
  have hA : ∀ q : Nat, s.heap.size ≤ q → A q := fun q h => by rw [← hAe]; exact Or.inr h
  have hS : va_S A s.heap s.heap [] := va_S.rf
  have hl := lv_entry ([.ref h0, .int 1, .int p0]) (n := 4) (Nat.le_of_ble_eq_true rfl)
  rw [lg_entry_eq]
  generalize (lg_sl ([.ref h0, .int 1, .int p0]) ++ List.replicate (4 - (lg_sl ([.ref h0, .int 1, .int p0])).length) Slot.unset).toArray = ls at hl ⊢
  have hl : lv_has ls 4 [(0, .ref h0), (1, .int 1), (2, .int p0)] := hl
  refine lv_iload_n hx hb dX12_feed_0 rfl (lv_at hl 1 rfl) ?_
  refine lv_iconst (v := 1) hx hb dX12_feed_1 (by decide) ?_
  change W _ _ _ _ _ _ _ _ _ _ _ _ _ _ _ (F0 m 2 ls [.int 1, .int 1])
  refine lv_iconst (v := 4) hx hb dX12_feed_2 (by decide) ?_
  have hPc := hP.sub (ws' := []) [] rfl
  have hDc := hD.sub (ws' := []) [] (by decide) rfl
  refine vz_callSi (va_runS (As := [.int 1, .int 1, .int 4]) (rest := []) ⟨hx, hb, hml, hown, hts⟩ (c_M_in l dC dI cy 1 1 4 s.heap.size) (va_cwS 3 hts gX12_feed_X12_in rfl rfl rfl (by decide +kernel) ⟨Nat.le_of_ble_eq_true rfl, Nat.le_of_ble_eq_true rfl⟩) (wp_S hK hN hPc hDc) rfl rfl hl.1 rfl (lv_room (Nat.le_of_ble_eq_true rfl)) dX12_feed_3 ⟨Nat.le_of_ble_eq_true rfl, Nat.le_of_ble_eq_true rfl⟩) (fun r_1 hw_1 => ?_)
  rcases hw_1 with ⟨c_1, hw_1⟩ | ⟨c_1, hw_1⟩ <;> subst hw_1
  · have ic_1 : (1 : Int) ≤ (1 : Int) ∧ (1 : Int) ≤ (4 : Int) := c_1
    refine lv_if_ne (tgt := 11) hx hb dX12_feed_6 (by decide) (fun _ => ?_) (fun c_2 => absurd c_2 (by decide))
    refine lv_aload_n hx hb dX12_feed_11 rfl (lv_at hl 0 rfl) ?_
    refine va_get (D := (dC, dI)) (ci := 12) (v := .int 0) (C := RX12) (T := TX12) (N := 59) hx hb hts (fun _ h9 => List.mem_cons_of_mem _ (List.mem_append_right _ h9)) hown hK hP 0 rfl rfl 22 (by decide) (hts (.fieldLink RX12 146 "SeatsRoundModel" "taped" "I") (List.mem_of_getElem? (i := 1) rfl)) (fun _ h9 => h9) rfl dX12_feed_12 ?_
    refine lv_iload_n hx hb dX12_feed_15 rfl (lv_at hl 1 rfl) ?_
    refine lv_iadd hx hb dX12_feed_16 ?_
    refine lv_topi (fun f_3 ef_3 => ?_)
    obtain rfl : f_3 = 1 := ef_3.trans (by decide)
    refine lv_bipush (v := 80) hx hb dX12_feed_17 (by decide) ?_
    refine lv_icmp_le (tgt := 25) hx hb dX12_feed_19 (by decide) (fun _ => ?_) (fun c_4 => absurd c_4 (by decide))
    change W _ _ _ _ _ _ _ _ _ _ _ _ _ _ _ (F0 m 25 ls [])
    refine lv_iconst (v := 0) hx hb dX12_feed_25 (by decide) ?_
    refine lv_istore_n (lv' := [(3, .int 0), (0, .ref h0), (1, .int 1), (2, .int p0)]) hx hb dX12_feed_26 rfl hl (by decide) rfl (fun ls hl => ?_)
    refine lv_iload_n hx hb dX12_feed_27 rfl (lv_at hl 0 rfl) ?_
    refine lv_iload_n hx hb dX12_feed_28 rfl (lv_at hl 2 rfl) ?_
    refine lv_icmp_ge (tgt := 67) hx hb dX12_feed_29 (by decide) (fun c_5 => absurd c_5 (by decide)) (fun _ => ?_)
    refine lv_aload_n hx hb dX12_feed_32 rfl (lv_at hl 1 rfl) ?_
    refine va_get (D := (dC, dI)) (ci := 12) (v := .ref m21) (C := RX12) (T := TX12) (N := 59) hx hb hts (fun _ h9 => List.mem_cons_of_mem _ (List.mem_append_right _ h9)) hown hK hP 0 rfl rfl 21 (by decide) (hts (.fieldLink RX12 65 "SeatsRoundModel" "tape" "[I") (List.mem_of_getElem? (i := 2) rfl)) (fun _ h9 => h9) rfl dX12_feed_33 ?_
    refine lv_aload_n hx hb dX12_feed_36 rfl (lv_at hl 1 rfl) ?_
    change W _ _ _ _ _ _ _ _ _ _ _ _ _ _ _ (F0 m 37 ls [.ref h0, .ref m21])
    refine va_get (D := (dC, dI)) (ci := 12) (v := .int 0) (C := RX12) (T := TX12) (N := 59) hx hb hts (fun _ h9 => List.mem_cons_of_mem _ (List.mem_append_right _ h9)) hown hK hP 0 rfl rfl 22 (by decide) (hts (.fieldLink RX12 146 "SeatsRoundModel" "taped" "I") (List.mem_of_getElem? (i := 1) rfl)) (fun _ h9 => h9) rfl dX12_feed_37 ?_
    refine lv_iload_n hx hb dX12_feed_40 rfl (lv_at hl 3 rfl) ?_
    refine lv_bipush (v := 8) hx hb dX12_feed_41 (by decide) ?_
    refine lv_iload_n hx hb dX12_feed_43 rfl (lv_at hl 0 rfl) ?_
    refine lv_imul hx hb dX12_feed_44 ?_
    refine lv_topi (fun f_6 ef_6 => ?_)
    obtain rfl : f_6 = 0 := ef_6.trans (by decide)
    refine lv_ishr hx hb dX12_feed_45 ?_
    refine lv_topi (fun f_7 ef_7 => ?_)
    refine lv_sipush (v := 255) hx hb dX12_feed_46 (by decide) ?_
    refine lv_iand hx hb dX12_feed_49 ?_
    refine lv_topi (fun f_8 ef_8 => ?_)
    change W _ _ _ _ _ _ _ _ _ _ _ _ _ _ _ (F0 m 50 ls [.int f_8, .int 0, .ref m21])
    refine va_iast hx hb hK hP hD hS 1 0 rfl rfl (vp_in_nI (n := 0) (N := 80) (by decide) (by decide)) dX12_feed_50 (fun H locs hP hD hS => ?_)
    generalize upd (fun _ => 0) (Int32.toNatClampNeg 0) f_8 = g_9 at hP hD
    have hP : va_P (dC, dI) vwCl [(h0, .inr (12, [.int 0, .ref m1, .ref m2, .int 0, .ref m4, .ref m5, .ref m6, .ref m7, .ref m8, .int 0, .ref m10, .ref m11, .ref m12, .ref m13, .ref m14, .ref m15, .ref m16, .ref m17, .ref m18, .ref m19, .ref m20, .ref m21, .int 0, .ref m23, .ref m24, .ref m25, .ref m26, .ref m27, .ref m28, .int 0, .int 0, .ref m31, .int 0, .ref m33, .int 0, .ref m35, .int (-1), .ref m37, .int 0, .ref m39, .ref m40, .ref m41, .ref m42, .ref m43, .int 0, .int 0, .int 0, .int 0, .int 0, .int 0, .int 0, .int 0, .ref m52, .int 0, .ref m54, .int 0, .ref m56, .ref m57, .ref m58])), (m21, .inl (cy 0, 80, .inl g_9))] H := hP
    have hD : va_D A [(h0, .inr (12, [.int 0, .ref m1, .ref m2, .int 0, .ref m4, .ref m5, .ref m6, .ref m7, .ref m8, .int 0, .ref m10, .ref m11, .ref m12, .ref m13, .ref m14, .ref m15, .ref m16, .ref m17, .ref m18, .ref m19, .ref m20, .ref m21, .int 0, .ref m23, .ref m24, .ref m25, .ref m26, .ref m27, .ref m28, .int 0, .int 0, .ref m31, .int 0, .ref m33, .int 0, .ref m35, .int (-1), .ref m37, .int 0, .ref m39, .ref m40, .ref m41, .ref m42, .ref m43, .int 0, .int 0, .int 0, .int 0, .int 0, .int 0, .int 0, .int 0, .ref m52, .int 0, .ref m54, .int 0, .ref m56, .ref m57, .ref m58])), (m21, .inl (cy 0, 80, .inl g_9))] := hD
    refine lv_aload_n hx hb dX12_feed_51 rfl (lv_at hl 1 rfl) ?_
    refine lv_dup hx hb dX12_feed_52 rfl ?_
    refine va_get (D := (dC, dI)) (ci := 12) (v := .int 0) (C := RX12) (T := TX12) (N := 59) hx hb hts (fun _ h9 => List.mem_cons_of_mem _ (List.mem_append_right _ h9)) hown hK hP 0 rfl rfl 22 (by decide) (hts (.fieldLink RX12 146 "SeatsRoundModel" "taped" "I") (List.mem_of_getElem? (i := 1) rfl)) (fun _ h9 => h9) rfl dX12_feed_53 ?_
    refine lv_iconst (v := 1) hx hb dX12_feed_56 (by decide) ?_
    refine lv_iadd hx hb dX12_feed_57 ?_
    refine lv_topi (fun f_10 ef_10 => ?_)
    obtain rfl : f_10 = 1 := ef_10.trans (by decide)
    refine va_put (D := (dC, dI)) (ci := 12) (v := .int 1) (C := RX12) (T := TX12) (N := 59) hx hb hts (fun _ h9 => List.mem_cons_of_mem _ (List.mem_append_right _ h9)) tyX12 tyX12_ok nmX12 hown hK hP hD hS 0 rfl rfl 22 (by decide) (hts (.fieldLink RX12 146 "SeatsRoundModel" "taped" "I") (List.mem_of_getElem? (i := 1) rfl)) (fun _ h9 => h9) rfl (tyX12_ok 22 (by decide)) rfl rfl (Nat.le_of_ble_eq_true rfl) dX12_feed_58 (fun H locs hP hD hS => ?_)
    have hP : va_P (dC, dI) vwCl [(h0, .inr (12, [.int 0, .ref m1, .ref m2, .int 0, .ref m4, .ref m5, .ref m6, .ref m7, .ref m8, .int 0, .ref m10, .ref m11, .ref m12, .ref m13, .ref m14, .ref m15, .ref m16, .ref m17, .ref m18, .ref m19, .ref m20, .ref m21, .int 1, .ref m23, .ref m24, .ref m25, .ref m26, .ref m27, .ref m28, .int 0, .int 0, .ref m31, .int 0, .ref m33, .int 0, .ref m35, .int (-1), .ref m37, .int 0, .ref m39, .ref m40, .ref m41, .ref m42, .ref m43, .int 0, .int 0, .int 0, .int 0, .int 0, .int 0, .int 0, .int 0, .ref m52, .int 0, .ref m54, .int 0, .ref m56, .ref m57, .ref m58])), (m21, .inl (cy 0, 80, .inl g_9))] H := hP
    have hD : va_D A [(h0, .inr (12, [.int 0, .ref m1, .ref m2, .int 0, .ref m4, .ref m5, .ref m6, .ref m7, .ref m8, .int 0, .ref m10, .ref m11, .ref m12, .ref m13, .ref m14, .ref m15, .ref m16, .ref m17, .ref m18, .ref m19, .ref m20, .ref m21, .int 1, .ref m23, .ref m24, .ref m25, .ref m26, .ref m27, .ref m28, .int 0, .int 0, .ref m31, .int 0, .ref m33, .int 0, .ref m35, .int (-1), .ref m37, .int 0, .ref m39, .ref m40, .ref m41, .ref m42, .ref m43, .int 0, .int 0, .int 0, .int 0, .int 0, .int 0, .int 0, .int 0, .ref m52, .int 0, .ref m54, .int 0, .ref m56, .ref m57, .ref m58])), (m21, .inl (cy 0, 80, .inl g_9))] := hD
    refine lv_iinc (v := 1) (lv' := [(3, .int 1), (0, .ref h0), (1, .int 1), (2, .int p0)]) hx hb dX12_feed_61 hl (k := 0) rfl (by decide) (by decide) rfl (fun ls hl => ?_)
    change W _ _ _ _ _ _ _ _ _ _ _ _ _ _ _ (F0 m 64 ls [])
    refine lv_goto (tgt := 27) hx hb dX12_feed_64 (by decide) ?_
    refine lv_iload_n hx hb dX12_feed_27 rfl (lv_at hl 0 rfl) ?_
    refine lv_iload_n hx hb dX12_feed_28 rfl (lv_at hl 2 rfl) ?_
    refine lv_icmp_ge (tgt := 67) hx hb dX12_feed_29 (by decide) (fun _ => ?_) (fun c_11 => absurd c_11 (by decide))
    refine lv_aload_n hx hb dX12_feed_67 rfl (lv_at hl 1 rfl) ?_
    refine va_get (D := (dC, dI)) (ci := 12) (v := .int 1) (C := RX12) (T := TX12) (N := 59) hx hb hts (fun _ h9 => List.mem_cons_of_mem _ (List.mem_append_right _ h9)) hown hK hP 0 rfl rfl 22 (by decide) (hts (.fieldLink RX12 146 "SeatsRoundModel" "taped" "I") (List.mem_of_getElem? (i := 1) rfl)) (fun _ h9 => h9) rfl dX12_feed_68 ?_
    exact W.iret (v := 1) hx hb hr (fun t ht hW => ⟨⟨1, (), rfl, (by first | rfl | (exfalso; omega)), trivial⟩, hS.F ht⟩) hS.2.2 dX12_feed_71
  · have ic_1 : ¬ ((1 : Int) ≤ (1 : Int) ∧ (1 : Int) ≤ (4 : Int)) := c_1
    exact absurd True.intro (by omega)
set_option maxHeartbeats 4000000 in
set_option maxRecDepth 100000 in
theorem c_M_feed_2 (l : Launch) (dC : Nat → ClassId) (dI : Nat → Nat → Nat) (cy : Nat → ClassId) (h0 : Nat) (m1 : Nat) (m2 : Nat) (m4 : Nat) (m5 : Nat) (m6 : Nat) (m7 : Nat) (m8 : Nat) (m10 : Nat) (m11 : Nat) (m12 : Nat) (m13 : Nat) (m14 : Nat) (m15 : Nat) (m16 : Nat) (m17 : Nat) (m18 : Nat) (m19 : Nat) (m20 : Nat) (m21 : Nat) (m23 : Nat) (m24 : Nat) (m25 : Nat) (m26 : Nat) (m27 : Nat) (m28 : Nat) (m31 : Nat) (m33 : Nat) (m35 : Nat) (m37 : Nat) (m39 : Nat) (m40 : Nat) (m41 : Nat) (m42 : Nat) (m43 : Nat) (m52 : Nat) (m54 : Nat) (m56 : Nat) (m57 : Nat) (m58 : Nat) (p0 : Int32) (sz : Nat)  : Met l yX12_feed wsX12_feed ({ frames := 2, cells := 0, slots := 0, locals := 45 }) (va_Pc [.ref h0, .int 2, .int p0] (wPre (dC, dI) cy [(h0, .inr (12, [.int 0, .ref m1, .ref m2, .int 0, .ref m4, .ref m5, .ref m6, .ref m7, .ref m8, .int 0, .ref m10, .ref m11, .ref m12, .ref m13, .ref m14, .ref m15, .ref m16, .ref m17, .ref m18, .ref m19, .ref m20, .ref m21, .int 0, .ref m23, .ref m24, .ref m25, .ref m26, .ref m27, .ref m28, .int 0, .int 0, .ref m31, .int 0, .ref m33, .int 0, .ref m35, .int (-1), .ref m37, .int 0, .ref m39, .ref m40, .ref m41, .ref m42, .ref m43, .int 0, .int 0, .int 0, .int 0, .int 0, .int 0, .int 0, .int 0, .ref m52, .int 0, .ref m54, .int 0, .ref m56, .ref m57, .ref m58])), (m21, .inl (cy 0, 80, .inl (fun _ => 0)))] sz)) (va_Qi (fun (r : Int32) (u : Unit) => r = 2) (fun (u : Unit) t => True) (va_A [(h0, .inr (12, [.int 0, .ref m1, .ref m2, .int 0, .ref m4, .ref m5, .ref m6, .ref m7, .ref m8, .int 0, .ref m10, .ref m11, .ref m12, .ref m13, .ref m14, .ref m15, .ref m16, .ref m17, .ref m18, .ref m19, .ref m20, .ref m21, .int 0, .ref m23, .ref m24, .ref m25, .ref m26, .ref m27, .ref m28, .int 0, .int 0, .ref m31, .int 0, .ref m33, .int 0, .ref m35, .int (-1), .ref m37, .int 0, .ref m39, .ref m40, .ref m41, .ref m42, .ref m43, .int 0, .int 0, .int 0, .int 0, .int 0, .int 0, .int 0, .int 0, .ref m52, .int 0, .ref m54, .int 0, .ref m56, .ref m57, .ref m58])), (m21, .inl (cy 0, 80, .inl (fun _ => 0)))] sz)) 0 0 (va_A [(h0, .inr (12, [.int 0, .ref m1, .ref m2, .int 0, .ref m4, .ref m5, .ref m6, .ref m7, .ref m8, .int 0, .ref m10, .ref m11, .ref m12, .ref m13, .ref m14, .ref m15, .ref m16, .ref m17, .ref m18, .ref m19, .ref m20, .ref m21, .int 0, .ref m23, .ref m24, .ref m25, .ref m26, .ref m27, .ref m28, .int 0, .int 0, .ref m31, .int 0, .ref m33, .int 0, .ref m35, .int (-1), .ref m37, .int 0, .ref m39, .ref m40, .ref m41, .ref m42, .ref m43, .int 0, .int 0, .int 0, .int 0, .int 0, .int 0, .int 0, .int 0, .ref m52, .int 0, .ref m54, .int 0, .ref m56, .ref m57, .ref m58])), (m21, .inl (cy 0, 80, .inl (fun _ => 0)))] sz) := by
  refine Met.ofW (cc := cX12_feed) (maxL := 4) (ret := (some .int)) (by decide) rfl ?_
  intro p e s m args below meth c s₁ B hml hv
  obtain ⟨rfl, hsz, hP, hK, hD0, hN⟩ := hv
  have hx := B.exec
  have hb := B.bytes
  have hr := B.returns
  have hts := atoms_spec (ws := wsX12_feed) B.pre
  have hown : s.vm.findClass RX12 = some m.cls := findClass_of_methodNamed B.named
  have hlocks := B.notSynchronized
  subst hsz
  have hD := hD0.self (sz := s.heap.size)
  generalize hAe : va_A [(h0, .inr (12, [.int 0, .ref m1, .ref m2, .int 0, .ref m4, .ref m5, .ref m6, .ref m7, .ref m8, .int 0, .ref m10, .ref m11, .ref m12, .ref m13, .ref m14, .ref m15, .ref m16, .ref m17, .ref m18, .ref m19, .ref m20, .ref m21, .int 0, .ref m23, .ref m24, .ref m25, .ref m26, .ref m27, .ref m28, .int 0, .int 0, .ref m31, .int 0, .ref m33, .int 0, .ref m35, .int (-1), .ref m37, .int 0, .ref m39, .ref m40, .ref m41, .ref m42, .ref m43, .int 0, .int 0, .int 0, .int 0, .int 0, .int 0, .int 0, .int 0, .ref m52, .int 0, .ref m54, .int 0, .ref m56, .ref m57, .ref m58])), (m21, .inl (cy 0, 80, .inl (fun _ => 0)))] s.heap.size = A at hD ⊢
  have hA : ∀ q : Nat, s.heap.size ≤ q → A q := fun q h => by rw [← hAe]; exact Or.inr h
  have hS : va_S A s.heap s.heap [] := va_S.rf
  have hl := lv_entry ([.ref h0, .int 2, .int p0]) (n := 4) (Nat.le_of_ble_eq_true rfl)
  rw [lg_entry_eq]
  generalize (lg_sl ([.ref h0, .int 2, .int p0]) ++ List.replicate (4 - (lg_sl ([.ref h0, .int 2, .int p0])).length) Slot.unset).toArray = ls at hl ⊢
  have hl : lv_has ls 4 [(0, .ref h0), (1, .int 2), (2, .int p0)] := hl
  refine lv_iload_n hx hb dX12_feed_0 rfl (lv_at hl 1 rfl) ?_
  refine lv_iconst (v := 1) hx hb dX12_feed_1 (by decide) ?_
  refine lv_iconst (v := 4) hx hb dX12_feed_2 (by decide) ?_
  change W _ _ _ _ _ _ _ _ _ _ _ _ _ _ _ (F0 m 3 ls [.int 4, .int 1, .int 2])
  have hPc := hP.sub (ws' := []) [] rfl
  have hDc := hD.sub (ws' := []) [] (by decide) rfl
  refine vz_callSi (va_runS (As := [.int 2, .int 1, .int 4]) (rest := []) ⟨hx, hb, hml, hown, hts⟩ (c_M_in l dC dI cy 2 1 4 s.heap.size) (va_cwS 3 hts gX12_feed_X12_in rfl rfl rfl (by decide +kernel) ⟨Nat.le_of_ble_eq_true rfl, Nat.le_of_ble_eq_true rfl⟩) (wp_S hK hN hPc hDc) rfl rfl hl.1 rfl (lv_room (Nat.le_of_ble_eq_true rfl)) dX12_feed_3 ⟨Nat.le_of_ble_eq_true rfl, Nat.le_of_ble_eq_true rfl⟩) (fun r_1 hw_1 => ?_)
  rcases hw_1 with ⟨c_1, hw_1⟩ | ⟨c_1, hw_1⟩ <;> subst hw_1
  · have ic_1 : (1 : Int) ≤ (2 : Int) ∧ (2 : Int) ≤ (4 : Int) := c_1
    refine lv_if_ne (tgt := 11) hx hb dX12_feed_6 (by decide) (fun _ => ?_) (fun c_2 => absurd c_2 (by decide))
    refine lv_aload_n hx hb dX12_feed_11 rfl (lv_at hl 0 rfl) ?_
    refine va_get (D := (dC, dI)) (ci := 12) (v := .int 0) (C := RX12) (T := TX12) (N := 59) hx hb hts (fun _ h9 => List.mem_cons_of_mem _ (List.mem_append_right _ h9)) hown hK hP 0 rfl rfl 22 (by decide) (hts (.fieldLink RX12 146 "SeatsRoundModel" "taped" "I") (List.mem_of_getElem? (i := 1) rfl)) (fun _ h9 => h9) rfl dX12_feed_12 ?_
    refine lv_iload_n hx hb dX12_feed_15 rfl (lv_at hl 1 rfl) ?_
    refine lv_iadd hx hb dX12_feed_16 ?_
    refine lv_topi (fun f_3 ef_3 => ?_)
    obtain rfl : f_3 = 2 := ef_3.trans (by decide)
    refine lv_bipush (v := 80) hx hb dX12_feed_17 (by decide) ?_
    refine lv_icmp_le (tgt := 25) hx hb dX12_feed_19 (by decide) (fun _ => ?_) (fun c_4 => absurd c_4 (by decide))
    refine lv_iconst (v := 0) hx hb dX12_feed_25 (by decide) ?_
    change W _ _ _ _ _ _ _ _ _ _ _ _ _ _ _ (F0 m 26 ls [.int 0])
    refine lv_istore_n (lv' := [(3, .int 0), (0, .ref h0), (1, .int 2), (2, .int p0)]) hx hb dX12_feed_26 rfl hl (by decide) rfl (fun ls hl => ?_)
    refine lv_iload_n hx hb dX12_feed_27 rfl (lv_at hl 0 rfl) ?_
    refine lv_iload_n hx hb dX12_feed_28 rfl (lv_at hl 2 rfl) ?_
    refine lv_icmp_ge (tgt := 67) hx hb dX12_feed_29 (by decide) (fun c_5 => absurd c_5 (by decide)) (fun _ => ?_)
    refine lv_aload_n hx hb dX12_feed_32 rfl (lv_at hl 1 rfl) ?_
    refine va_get (D := (dC, dI)) (ci := 12) (v := .ref m21) (C := RX12) (T := TX12) (N := 59) hx hb hts (fun _ h9 => List.mem_cons_of_mem _ (List.mem_append_right _ h9)) hown hK hP 0 rfl rfl 21 (by decide) (hts (.fieldLink RX12 65 "SeatsRoundModel" "tape" "[I") (List.mem_of_getElem? (i := 2) rfl)) (fun _ h9 => h9) rfl dX12_feed_33 ?_
    refine lv_aload_n hx hb dX12_feed_36 rfl (lv_at hl 1 rfl) ?_
    refine va_get (D := (dC, dI)) (ci := 12) (v := .int 0) (C := RX12) (T := TX12) (N := 59) hx hb hts (fun _ h9 => List.mem_cons_of_mem _ (List.mem_append_right _ h9)) hown hK hP 0 rfl rfl 22 (by decide) (hts (.fieldLink RX12 146 "SeatsRoundModel" "taped" "I") (List.mem_of_getElem? (i := 1) rfl)) (fun _ h9 => h9) rfl dX12_feed_37 ?_
    change W _ _ _ _ _ _ _ _ _ _ _ _ _ _ _ (F0 m 40 ls [.int 0, .ref m21])
    refine lv_iload_n hx hb dX12_feed_40 rfl (lv_at hl 3 rfl) ?_
    refine lv_bipush (v := 8) hx hb dX12_feed_41 (by decide) ?_
    refine lv_iload_n hx hb dX12_feed_43 rfl (lv_at hl 0 rfl) ?_
    refine lv_imul hx hb dX12_feed_44 ?_
    refine lv_topi (fun f_6 ef_6 => ?_)
    obtain rfl : f_6 = 0 := ef_6.trans (by decide)
    refine lv_ishr hx hb dX12_feed_45 ?_
    refine lv_topi (fun f_7 ef_7 => ?_)
    refine lv_sipush (v := 255) hx hb dX12_feed_46 (by decide) ?_
    refine lv_iand hx hb dX12_feed_49 ?_
    refine lv_topi (fun f_8 ef_8 => ?_)
    refine va_iast hx hb hK hP hD hS 1 0 rfl rfl (vp_in_nI (n := 0) (N := 80) (by decide) (by decide)) dX12_feed_50 (fun H locs hP hD hS => ?_)
    generalize upd (fun _ => 0) (Int32.toNatClampNeg 0) f_8 = g_9 at hP hD
    have hP : va_P (dC, dI) vwCl [(h0, .inr (12, [.int 0, .ref m1, .ref m2, .int 0, .ref m4, .ref m5, .ref m6, .ref m7, .ref m8, .int 0, .ref m10, .ref m11, .ref m12, .ref m13, .ref m14, .ref m15, .ref m16, .ref m17, .ref m18, .ref m19, .ref m20, .ref m21, .int 0, .ref m23, .ref m24, .ref m25, .ref m26, .ref m27, .ref m28, .int 0, .int 0, .ref m31, .int 0, .ref m33, .int 0, .ref m35, .int (-1), .ref m37, .int 0, .ref m39, .ref m40, .ref m41, .ref m42, .ref m43, .int 0, .int 0, .int 0, .int 0, .int 0, .int 0, .int 0, .int 0, .ref m52, .int 0, .ref m54, .int 0, .ref m56, .ref m57, .ref m58])), (m21, .inl (cy 0, 80, .inl g_9))] H := hP
    have hD : va_D A [(h0, .inr (12, [.int 0, .ref m1, .ref m2, .int 0, .ref m4, .ref m5, .ref m6, .ref m7, .ref m8, .int 0, .ref m10, .ref m11, .ref m12, .ref m13, .ref m14, .ref m15, .ref m16, .ref m17, .ref m18, .ref m19, .ref m20, .ref m21, .int 0, .ref m23, .ref m24, .ref m25, .ref m26, .ref m27, .ref m28, .int 0, .int 0, .ref m31, .int 0, .ref m33, .int 0, .ref m35, .int (-1), .ref m37, .int 0, .ref m39, .ref m40, .ref m41, .ref m42, .ref m43, .int 0, .int 0, .int 0, .int 0, .int 0, .int 0, .int 0, .int 0, .ref m52, .int 0, .ref m54, .int 0, .ref m56, .ref m57, .ref m58])), (m21, .inl (cy 0, 80, .inl g_9))] := hD
    change W _ _ _ _ _ _ _ _ _ _ _ _ _ _ _ (F0 m 51 ls [])
    refine lv_aload_n hx hb dX12_feed_51 rfl (lv_at hl 1 rfl) ?_
    refine lv_dup hx hb dX12_feed_52 rfl ?_
    refine va_get (D := (dC, dI)) (ci := 12) (v := .int 0) (C := RX12) (T := TX12) (N := 59) hx hb hts (fun _ h9 => List.mem_cons_of_mem _ (List.mem_append_right _ h9)) hown hK hP 0 rfl rfl 22 (by decide) (hts (.fieldLink RX12 146 "SeatsRoundModel" "taped" "I") (List.mem_of_getElem? (i := 1) rfl)) (fun _ h9 => h9) rfl dX12_feed_53 ?_
    refine lv_iconst (v := 1) hx hb dX12_feed_56 (by decide) ?_
    refine lv_iadd hx hb dX12_feed_57 ?_
    refine lv_topi (fun f_10 ef_10 => ?_)
    obtain rfl : f_10 = 1 := ef_10.trans (by decide)
    refine va_put (D := (dC, dI)) (ci := 12) (v := .int 1) (C := RX12) (T := TX12) (N := 59) hx hb hts (fun _ h9 => List.mem_cons_of_mem _ (List.mem_append_right _ h9)) tyX12 tyX12_ok nmX12 hown hK hP hD hS 0 rfl rfl 22 (by decide) (hts (.fieldLink RX12 146 "SeatsRoundModel" "taped" "I") (List.mem_of_getElem? (i := 1) rfl)) (fun _ h9 => h9) rfl (tyX12_ok 22 (by decide)) rfl rfl (Nat.le_of_ble_eq_true rfl) dX12_feed_58 (fun H locs hP hD hS => ?_)
    have hP : va_P (dC, dI) vwCl [(h0, .inr (12, [.int 0, .ref m1, .ref m2, .int 0, .ref m4, .ref m5, .ref m6, .ref m7, .ref m8, .int 0, .ref m10, .ref m11, .ref m12, .ref m13, .ref m14, .ref m15, .ref m16, .ref m17, .ref m18, .ref m19, .ref m20, .ref m21, .int 1, .ref m23, .ref m24, .ref m25, .ref m26, .ref m27, .ref m28, .int 0, .int 0, .ref m31, .int 0, .ref m33, .int 0, .ref m35, .int (-1), .ref m37, .int 0, .ref m39, .ref m40, .ref m41, .ref m42, .ref m43, .int 0, .int 0, .int 0, .int 0, .int 0, .int 0, .int 0, .int 0, .ref m52, .int 0, .ref m54, .int 0, .ref m56, .ref m57, .ref m58])), (m21, .inl (cy 0, 80, .inl g_9))] H := hP
    have hD : va_D A [(h0, .inr (12, [.int 0, .ref m1, .ref m2, .int 0, .ref m4, .ref m5, .ref m6, .ref m7, .ref m8, .int 0, .ref m10, .ref m11, .ref m12, .ref m13, .ref m14, .ref m15, .ref m16, .ref m17, .ref m18, .ref m19, .ref m20, .ref m21, .int 1, .ref m23, .ref m24, .ref m25, .ref m26, .ref m27, .ref m28, .int 0, .int 0, .ref m31, .int 0, .ref m33, .int 0, .ref m35, .int (-1), .ref m37, .int 0, .ref m39, .ref m40, .ref m41, .ref m42, .ref m43, .int 0, .int 0, .int 0, .int 0, .int 0, .int 0, .int 0, .int 0, .ref m52, .int 0, .ref m54, .int 0, .ref m56, .ref m57, .ref m58])), (m21, .inl (cy 0, 80, .inl g_9))] := hD
    refine lv_iinc (v := 1) (lv' := [(3, .int 1), (0, .ref h0), (1, .int 2), (2, .int p0)]) hx hb dX12_feed_61 hl (k := 0) rfl (by decide) (by decide) rfl (fun ls hl => ?_)
    refine lv_goto (tgt := 27) hx hb dX12_feed_64 (by decide) ?_
    refine lv_iload_n hx hb dX12_feed_27 rfl (lv_at hl 0 rfl) ?_
    refine lv_iload_n hx hb dX12_feed_28 rfl (lv_at hl 2 rfl) ?_
    refine lv_icmp_ge (tgt := 67) hx hb dX12_feed_29 (by decide) (fun c_11 => absurd c_11 (by decide)) (fun _ => ?_)
    refine lv_aload_n hx hb dX12_feed_32 rfl (lv_at hl 1 rfl) ?_
    refine va_get (D := (dC, dI)) (ci := 12) (v := .ref m21) (C := RX12) (T := TX12) (N := 59) hx hb hts (fun _ h9 => List.mem_cons_of_mem _ (List.mem_append_right _ h9)) hown hK hP 0 rfl rfl 21 (by decide) (hts (.fieldLink RX12 65 "SeatsRoundModel" "tape" "[I") (List.mem_of_getElem? (i := 2) rfl)) (fun _ h9 => h9) rfl dX12_feed_33 ?_
    refine lv_aload_n hx hb dX12_feed_36 rfl (lv_at hl 1 rfl) ?_
    refine va_get (D := (dC, dI)) (ci := 12) (v := .int 1) (C := RX12) (T := TX12) (N := 59) hx hb hts (fun _ h9 => List.mem_cons_of_mem _ (List.mem_append_right _ h9)) hown hK hP 0 rfl rfl 22 (by decide) (hts (.fieldLink RX12 146 "SeatsRoundModel" "taped" "I") (List.mem_of_getElem? (i := 1) rfl)) (fun _ h9 => h9) rfl dX12_feed_37 ?_
    refine lv_iload_n hx hb dX12_feed_40 rfl (lv_at hl 3 rfl) ?_
    change W _ _ _ _ _ _ _ _ _ _ _ _ _ _ _ (F0 m 41 ls [.int p0, .int 1, .ref m21])
    refine lv_bipush (v := 8) hx hb dX12_feed_41 (by decide) ?_
    refine lv_iload_n hx hb dX12_feed_43 rfl (lv_at hl 0 rfl) ?_
    refine lv_imul hx hb dX12_feed_44 ?_
    refine lv_topi (fun f_12 ef_12 => ?_)
    obtain rfl : f_12 = 8 := ef_12.trans (by decide)
    refine lv_ishr hx hb dX12_feed_45 ?_
    refine lv_topi (fun f_13 ef_13 => ?_)
    refine lv_sipush (v := 255) hx hb dX12_feed_46 (by decide) ?_
    refine lv_iand hx hb dX12_feed_49 ?_
    refine lv_topi (fun f_14 ef_14 => ?_)
    refine va_iast hx hb hK hP hD hS 1 0 rfl rfl (vp_in_nI (n := 1) (N := 80) (by decide) (by decide)) dX12_feed_50 (fun H locs hP hD hS => ?_)
    generalize upd g_9 (Int32.toNatClampNeg 1) f_14 = g_15 at hP hD
    have hP : va_P (dC, dI) vwCl [(h0, .inr (12, [.int 0, .ref m1, .ref m2, .int 0, .ref m4, .ref m5, .ref m6, .ref m7, .ref m8, .int 0, .ref m10, .ref m11, .ref m12, .ref m13, .ref m14, .ref m15, .ref m16, .ref m17, .ref m18, .ref m19, .ref m20, .ref m21, .int 1, .ref m23, .ref m24, .ref m25, .ref m26, .ref m27, .ref m28, .int 0, .int 0, .ref m31, .int 0, .ref m33, .int 0, .ref m35, .int (-1), .ref m37, .int 0, .ref m39, .ref m40, .ref m41, .ref m42, .ref m43, .int 0, .int 0, .int 0, .int 0, .int 0, .int 0, .int 0, .int 0, .ref m52, .int 0, .ref m54, .int 0, .ref m56, .ref m57, .ref m58])), (m21, .inl (cy 0, 80, .inl g_15))] H := hP
    have hD : va_D A [(h0, .inr (12, [.int 0, .ref m1, .ref m2, .int 0, .ref m4, .ref m5, .ref m6, .ref m7, .ref m8, .int 0, .ref m10, .ref m11, .ref m12, .ref m13, .ref m14, .ref m15, .ref m16, .ref m17, .ref m18, .ref m19, .ref m20, .ref m21, .int 1, .ref m23, .ref m24, .ref m25, .ref m26, .ref m27, .ref m28, .int 0, .int 0, .ref m31, .int 0, .ref m33, .int 0, .ref m35, .int (-1), .ref m37, .int 0, .ref m39, .ref m40, .ref m41, .ref m42, .ref m43, .int 0, .int 0, .int 0, .int 0, .int 0, .int 0, .int 0, .int 0, .ref m52, .int 0, .ref m54, .int 0, .ref m56, .ref m57, .ref m58])), (m21, .inl (cy 0, 80, .inl g_15))] := hD
    refine lv_aload_n hx hb dX12_feed_51 rfl (lv_at hl 1 rfl) ?_
    change W _ _ _ _ _ _ _ _ _ _ _ _ _ _ _ (F0 m 52 ls [.ref h0])
    refine lv_dup hx hb dX12_feed_52 rfl ?_
    refine va_get (D := (dC, dI)) (ci := 12) (v := .int 1) (C := RX12) (T := TX12) (N := 59) hx hb hts (fun _ h9 => List.mem_cons_of_mem _ (List.mem_append_right _ h9)) hown hK hP 0 rfl rfl 22 (by decide) (hts (.fieldLink RX12 146 "SeatsRoundModel" "taped" "I") (List.mem_of_getElem? (i := 1) rfl)) (fun _ h9 => h9) rfl dX12_feed_53 ?_
    refine lv_iconst (v := 1) hx hb dX12_feed_56 (by decide) ?_
    refine lv_iadd hx hb dX12_feed_57 ?_
    refine lv_topi (fun f_16 ef_16 => ?_)
    obtain rfl : f_16 = 2 := ef_16.trans (by decide)
    refine va_put (D := (dC, dI)) (ci := 12) (v := .int 2) (C := RX12) (T := TX12) (N := 59) hx hb hts (fun _ h9 => List.mem_cons_of_mem _ (List.mem_append_right _ h9)) tyX12 tyX12_ok nmX12 hown hK hP hD hS 0 rfl rfl 22 (by decide) (hts (.fieldLink RX12 146 "SeatsRoundModel" "taped" "I") (List.mem_of_getElem? (i := 1) rfl)) (fun _ h9 => h9) rfl (tyX12_ok 22 (by decide)) rfl rfl (Nat.le_of_ble_eq_true rfl) dX12_feed_58 (fun H locs hP hD hS => ?_)
    have hP : va_P (dC, dI) vwCl [(h0, .inr (12, [.int 0, .ref m1, .ref m2, .int 0, .ref m4, .ref m5, .ref m6, .ref m7, .ref m8, .int 0, .ref m10, .ref m11, .ref m12, .ref m13, .ref m14, .ref m15, .ref m16, .ref m17, .ref m18, .ref m19, .ref m20, .ref m21, .int 2, .ref m23, .ref m24, .ref m25, .ref m26, .ref m27, .ref m28, .int 0, .int 0, .ref m31, .int 0, .ref m33, .int 0, .ref m35, .int (-1), .ref m37, .int 0, .ref m39, .ref m40, .ref m41, .ref m42, .ref m43, .int 0, .int 0, .int 0, .int 0, .int 0, .int 0, .int 0, .int 0, .ref m52, .int 0, .ref m54, .int 0, .ref m56, .ref m57, .ref m58])), (m21, .inl (cy 0, 80, .inl g_15))] H := hP
    have hD : va_D A [(h0, .inr (12, [.int 0, .ref m1, .ref m2, .int 0, .ref m4, .ref m5, .ref m6, .ref m7, .ref m8, .int 0, .ref m10, .ref m11, .ref m12, .ref m13, .ref m14, .ref m15, .ref m16, .ref m17, .ref m18, .ref m19, .ref m20, .ref m21, .int 2, .ref m23, .ref m24, .ref m25, .ref m26, .ref m27, .ref m28, .int 0, .int 0, .ref m31, .int 0, .ref m33, .int 0, .ref m35, .int (-1), .ref m37, .int 0, .ref m39, .ref m40, .ref m41, .ref m42, .ref m43, .int 0, .int 0, .int 0, .int 0, .int 0, .int 0, .int 0, .int 0, .ref m52, .int 0, .ref m54, .int 0, .ref m56, .ref m57, .ref m58])), (m21, .inl (cy 0, 80, .inl g_15))] := hD
    refine lv_iinc (v := 2) (lv' := [(3, .int 2), (0, .ref h0), (1, .int 2), (2, .int p0)]) hx hb dX12_feed_61 hl (k := 0) rfl (by decide) (by decide) rfl (fun ls hl => ?_)
    refine lv_goto (tgt := 27) hx hb dX12_feed_64 (by decide) ?_
    refine lv_iload_n hx hb dX12_feed_27 rfl (lv_at hl 0 rfl) ?_
    change W _ _ _ _ _ _ _ _ _ _ _ _ _ _ _ (F0 m 28 ls [.int 2])
    refine lv_iload_n hx hb dX12_feed_28 rfl (lv_at hl 2 rfl) ?_
    refine lv_icmp_ge (tgt := 67) hx hb dX12_feed_29 (by decide) (fun _ => ?_) (fun c_17 => absurd c_17 (by decide))
    refine lv_aload_n hx hb dX12_feed_67 rfl (lv_at hl 1 rfl) ?_
    refine va_get (D := (dC, dI)) (ci := 12) (v := .int 2) (C := RX12) (T := TX12) (N := 59) hx hb hts (fun _ h9 => List.mem_cons_of_mem _ (List.mem_append_right _ h9)) hown hK hP 0 rfl rfl 22 (by decide) (hts (.fieldLink RX12 146 "SeatsRoundModel" "taped" "I") (List.mem_of_getElem? (i := 1) rfl)) (fun _ h9 => h9) rfl dX12_feed_68 ?_
    exact W.iret (v := 2) hx hb hr (fun t ht hW => ⟨⟨2, (), rfl, (by first | rfl | (exfalso; omega)), trivial⟩, hS.F ht⟩) hS.2.2 dX12_feed_71
  · have ic_1 : ¬ ((1 : Int) ≤ (2 : Int) ∧ (2 : Int) ≤ (4 : Int)) := c_1
    exact absurd True.intro (by omega)
set_option maxHeartbeats 4000000 in
set_option maxRecDepth 100000 in
theorem c_M_feed_3 (l : Launch) (dC : Nat → ClassId) (dI : Nat → Nat → Nat) (cy : Nat → ClassId) (h0 : Nat) (m1 : Nat) (m2 : Nat) (m4 : Nat) (m5 : Nat) (m6 : Nat) (m7 : Nat) (m8 : Nat) (m10 : Nat) (m11 : Nat) (m12 : Nat) (m13 : Nat) (m14 : Nat) (m15 : Nat) (m16 : Nat) (m17 : Nat) (m18 : Nat) (m19 : Nat) (m20 : Nat) (m21 : Nat) (m23 : Nat) (m24 : Nat) (m25 : Nat) (m26 : Nat) (m27 : Nat) (m28 : Nat) (m31 : Nat) (m33 : Nat) (m35 : Nat) (m37 : Nat) (m39 : Nat) (m40 : Nat) (m41 : Nat) (m42 : Nat) (m43 : Nat) (m52 : Nat) (m54 : Nat) (m56 : Nat) (m57 : Nat) (m58 : Nat) (p0 : Int32) (sz : Nat)  : Met l yX12_feed wsX12_feed ({ frames := 2, cells := 0, slots := 0, locals := 45 }) (va_Pc [.ref h0, .int 3, .int p0] (wPre (dC, dI) cy [(h0, .inr (12, [.int 0, .ref m1, .ref m2, .int 0, .ref m4, .ref m5, .ref m6, .ref m7, .ref m8, .int 0, .ref m10, .ref m11, .ref m12, .ref m13, .ref m14, .ref m15, .ref m16, .ref m17, .ref m18, .ref m19, .ref m20, .ref m21, .int 0, .ref m23, .ref m24, .ref m25, .ref m26, .ref m27, .ref m28, .int 0, .int 0, .ref m31, .int 0, .ref m33, .int 0, .ref m35, .int (-1), .ref m37, .int 0, .ref m39, .ref m40, .ref m41, .ref m42, .ref m43, .int 0, .int 0, .int 0, .int 0, .int 0, .int 0, .int 0, .int 0, .ref m52, .int 0, .ref m54, .int 0, .ref m56, .ref m57, .ref m58])), (m21, .inl (cy 0, 80, .inl (fun _ => 0)))] sz)) (va_Qi (fun (r : Int32) (u : Unit) => r = 3) (fun (u : Unit) t => True) (va_A [(h0, .inr (12, [.int 0, .ref m1, .ref m2, .int 0, .ref m4, .ref m5, .ref m6, .ref m7, .ref m8, .int 0, .ref m10, .ref m11, .ref m12, .ref m13, .ref m14, .ref m15, .ref m16, .ref m17, .ref m18, .ref m19, .ref m20, .ref m21, .int 0, .ref m23, .ref m24, .ref m25, .ref m26, .ref m27, .ref m28, .int 0, .int 0, .ref m31, .int 0, .ref m33, .int 0, .ref m35, .int (-1), .ref m37, .int 0, .ref m39, .ref m40, .ref m41, .ref m42, .ref m43, .int 0, .int 0, .int 0, .int 0, .int 0, .int 0, .int 0, .int 0, .ref m52, .int 0, .ref m54, .int 0, .ref m56, .ref m57, .ref m58])), (m21, .inl (cy 0, 80, .inl (fun _ => 0)))] sz)) 0 0 (va_A [(h0, .inr (12, [.int 0, .ref m1, .ref m2, .int 0, .ref m4, .ref m5, .ref m6, .ref m7, .ref m8, .int 0, .ref m10, .ref m11, .ref m12, .ref m13, .ref m14, .ref m15, .ref m16, .ref m17, .ref m18, .ref m19, .ref m20, .ref m21, .int 0, .ref m23, .ref m24, .ref m25, .ref m26, .ref m27, .ref m28, .int 0, .int 0, .ref m31, .int 0, .ref m33, .int 0, .ref m35, .int (-1), .ref m37, .int 0, .ref m39, .ref m40, .ref m41, .ref m42, .ref m43, .int 0, .int 0, .int 0, .int 0, .int 0, .int 0, .int 0, .int 0, .ref m52, .int 0, .ref m54, .int 0, .ref m56, .ref m57, .ref m58])), (m21, .inl (cy 0, 80, .inl (fun _ => 0)))] sz) := by
  refine Met.ofW (cc := cX12_feed) (maxL := 4) (ret := (some .int)) (by decide) rfl ?_
  intro p e s m args below meth c s₁ B hml hv
  obtain ⟨rfl, hsz, hP, hK, hD0, hN⟩ := hv
  have hx := B.exec
  have hb := B.bytes
  have hr := B.returns
  have hts := atoms_spec (ws := wsX12_feed) B.pre
  have hown : s.vm.findClass RX12 = some m.cls := findClass_of_methodNamed B.named
  have hlocks := B.notSynchronized
  subst hsz
  have hD := hD0.self (sz := s.heap.size)
  generalize hAe : va_A [(h0, .inr (12, [.int 0, .ref m1, .ref m2, .int 0, .ref m4, .ref m5, .ref m6, .ref m7, .ref m8, .int 0, .ref m10, .ref m11, .ref m12, .ref m13, .ref m14, .ref m15, .ref m16, .ref m17, .ref m18, .ref m19, .ref m20, .ref m21, .int 0, .ref m23, .ref m24, .ref m25, .ref m26, .ref m27, .ref m28, .int 0, .int 0, .ref m31, .int 0, .ref m33, .int 0, .ref m35, .int (-1), .ref m37, .int 0, .ref m39, .ref m40, .ref m41, .ref m42, .ref m43, .int 0, .int 0, .int 0, .int 0, .int 0, .int 0, .int 0, .int 0, .ref m52, .int 0, .ref m54, .int 0, .ref m56, .ref m57, .ref m58])), (m21, .inl (cy 0, 80, .inl (fun _ => 0)))] s.heap.size = A at hD ⊢
  have hA : ∀ q : Nat, s.heap.size ≤ q → A q := fun q h => by rw [← hAe]; exact Or.inr h
  have hS : va_S A s.heap s.heap [] := va_S.rf
  have hl := lv_entry ([.ref h0, .int 3, .int p0]) (n := 4) (Nat.le_of_ble_eq_true rfl)
  rw [lg_entry_eq]
  generalize (lg_sl ([.ref h0, .int 3, .int p0]) ++ List.replicate (4 - (lg_sl ([.ref h0, .int 3, .int p0])).length) Slot.unset).toArray = ls at hl ⊢
  have hl : lv_has ls 4 [(0, .ref h0), (1, .int 3), (2, .int p0)] := hl
  refine lv_iload_n hx hb dX12_feed_0 rfl (lv_at hl 1 rfl) ?_
  refine lv_iconst (v := 1) hx hb dX12_feed_1 (by decide) ?_
  refine lv_iconst (v := 4) hx hb dX12_feed_2 (by decide) ?_
  have hPc := hP.sub (ws' := []) [] rfl
  have hDc := hD.sub (ws' := []) [] (by decide) rfl
  refine vz_callSi (va_runS (As := [.int 3, .int 1, .int 4]) (rest := []) ⟨hx, hb, hml, hown, hts⟩ (c_M_in l dC dI cy 3 1 4 s.heap.size) (va_cwS 3 hts gX12_feed_X12_in rfl rfl rfl (by decide +kernel) ⟨Nat.le_of_ble_eq_true rfl, Nat.le_of_ble_eq_true rfl⟩) (wp_S hK hN hPc hDc) rfl rfl hl.1 rfl (lv_room (Nat.le_of_ble_eq_true rfl)) dX12_feed_3 ⟨Nat.le_of_ble_eq_true rfl, Nat.le_of_ble_eq_true rfl⟩) (fun r_1 hw_1 => ?_)
  rcases hw_1 with ⟨c_1, hw_1⟩ | ⟨c_1, hw_1⟩ <;> subst hw_1
  · have ic_1 : (1 : Int) ≤ (3 : Int) ∧ (3 : Int) ≤ (4 : Int) := c_1
    refine lv_if_ne (tgt := 11) hx hb dX12_feed_6 (by decide) (fun _ => ?_) (fun c_2 => absurd c_2 (by decide))
    refine lv_aload_n hx hb dX12_feed_11 rfl (lv_at hl 0 rfl) ?_
    refine va_get (D := (dC, dI)) (ci := 12) (v := .int 0) (C := RX12) (T := TX12) (N := 59) hx hb hts (fun _ h9 => List.mem_cons_of_mem _ (List.mem_append_right _ h9)) hown hK hP 0 rfl rfl 22 (by decide) (hts (.fieldLink RX12 146 "SeatsRoundModel" "taped" "I") (List.mem_of_getElem? (i := 1) rfl)) (fun _ h9 => h9) rfl dX12_feed_12 ?_
    change W _ _ _ _ _ _ _ _ _ _ _ _ _ _ _ (F0 m 15 ls [.int 0])
    refine lv_iload_n hx hb dX12_feed_15 rfl (lv_at hl 1 rfl) ?_
    refine lv_iadd hx hb dX12_feed_16 ?_
    refine lv_topi (fun f_3 ef_3 => ?_)
    obtain rfl : f_3 = 3 := ef_3.trans (by decide)
    refine lv_bipush (v := 80) hx hb dX12_feed_17 (by decide) ?_
    refine lv_icmp_le (tgt := 25) hx hb dX12_feed_19 (by decide) (fun _ => ?_) (fun c_4 => absurd c_4 (by decide))
    refine lv_iconst (v := 0) hx hb dX12_feed_25 (by decide) ?_
    refine lv_istore_n (lv' := [(3, .int 0), (0, .ref h0), (1, .int 3), (2, .int p0)]) hx hb dX12_feed_26 rfl hl (by decide) rfl (fun ls hl => ?_)
    refine lv_iload_n hx hb dX12_feed_27 rfl (lv_at hl 0 rfl) ?_
    refine lv_iload_n hx hb dX12_feed_28 rfl (lv_at hl 2 rfl) ?_
    change W _ _ _ _ _ _ _ _ _ _ _ _ _ _ _ (F0 m 29 ls [.int 3, .int 0])
    refine lv_icmp_ge (tgt := 67) hx hb dX12_feed_29 (by decide) (fun c_5 => absurd c_5 (by decide)) (fun _ => ?_)
    refine lv_aload_n hx hb dX12_feed_32 rfl (lv_at hl 1 rfl) ?_
    refine va_get (D := (dC, dI)) (ci := 12) (v := .ref m21) (C := RX12) (T := TX12) (N := 59) hx hb hts (fun _ h9 => List.mem_cons_of_mem _ (List.mem_append_right _ h9)) hown hK hP 0 rfl rfl 21 (by decide) (hts (.fieldLink RX12 65 "SeatsRoundModel" "tape" "[I") (List.mem_of_getElem? (i := 2) rfl)) (fun _ h9 => h9) rfl dX12_feed_33 ?_
    refine lv_aload_n hx hb dX12_feed_36 rfl (lv_at hl 1 rfl) ?_
    refine va_get (D := (dC, dI)) (ci := 12) (v := .int 0) (C := RX12) (T := TX12) (N := 59) hx hb hts (fun _ h9 => List.mem_cons_of_mem _ (List.mem_append_right _ h9)) hown hK hP 0 rfl rfl 22 (by decide) (hts (.fieldLink RX12 146 "SeatsRoundModel" "taped" "I") (List.mem_of_getElem? (i := 1) rfl)) (fun _ h9 => h9) rfl dX12_feed_37 ?_
    refine lv_iload_n hx hb dX12_feed_40 rfl (lv_at hl 3 rfl) ?_
    refine lv_bipush (v := 8) hx hb dX12_feed_41 (by decide) ?_
    refine lv_iload_n hx hb dX12_feed_43 rfl (lv_at hl 0 rfl) ?_
    change W _ _ _ _ _ _ _ _ _ _ _ _ _ _ _ (F0 m 44 ls [.int 0, .int 8, .int p0, .int 0, .ref m21])
    refine lv_imul hx hb dX12_feed_44 ?_
    refine lv_topi (fun f_6 ef_6 => ?_)
    obtain rfl : f_6 = 0 := ef_6.trans (by decide)
    refine lv_ishr hx hb dX12_feed_45 ?_
    refine lv_topi (fun f_7 ef_7 => ?_)
    refine lv_sipush (v := 255) hx hb dX12_feed_46 (by decide) ?_
    refine lv_iand hx hb dX12_feed_49 ?_
    refine lv_topi (fun f_8 ef_8 => ?_)
    refine va_iast hx hb hK hP hD hS 1 0 rfl rfl (vp_in_nI (n := 0) (N := 80) (by decide) (by decide)) dX12_feed_50 (fun H locs hP hD hS => ?_)
    generalize upd (fun _ => 0) (Int32.toNatClampNeg 0) f_8 = g_9 at hP hD
    have hP : va_P (dC, dI) vwCl [(h0, .inr (12, [.int 0, .ref m1, .ref m2, .int 0, .ref m4, .ref m5, .ref m6, .ref m7, .ref m8, .int 0, .ref m10, .ref m11, .ref m12, .ref m13, .ref m14, .ref m15, .ref m16, .ref m17, .ref m18, .ref m19, .ref m20, .ref m21, .int 0, .ref m23, .ref m24, .ref m25, .ref m26, .ref m27, .ref m28, .int 0, .int 0, .ref m31, .int 0, .ref m33, .int 0, .ref m35, .int (-1), .ref m37, .int 0, .ref m39, .ref m40, .ref m41, .ref m42, .ref m43, .int 0, .int 0, .int 0, .int 0, .int 0, .int 0, .int 0, .int 0, .ref m52, .int 0, .ref m54, .int 0, .ref m56, .ref m57, .ref m58])), (m21, .inl (cy 0, 80, .inl g_9))] H := hP
    have hD : va_D A [(h0, .inr (12, [.int 0, .ref m1, .ref m2, .int 0, .ref m4, .ref m5, .ref m6, .ref m7, .ref m8, .int 0, .ref m10, .ref m11, .ref m12, .ref m13, .ref m14, .ref m15, .ref m16, .ref m17, .ref m18, .ref m19, .ref m20, .ref m21, .int 0, .ref m23, .ref m24, .ref m25, .ref m26, .ref m27, .ref m28, .int 0, .int 0, .ref m31, .int 0, .ref m33, .int 0, .ref m35, .int (-1), .ref m37, .int 0, .ref m39, .ref m40, .ref m41, .ref m42, .ref m43, .int 0, .int 0, .int 0, .int 0, .int 0, .int 0, .int 0, .int 0, .ref m52, .int 0, .ref m54, .int 0, .ref m56, .ref m57, .ref m58])), (m21, .inl (cy 0, 80, .inl g_9))] := hD
    refine lv_aload_n hx hb dX12_feed_51 rfl (lv_at hl 1 rfl) ?_
    refine lv_dup hx hb dX12_feed_52 rfl ?_
    refine va_get (D := (dC, dI)) (ci := 12) (v := .int 0) (C := RX12) (T := TX12) (N := 59) hx hb hts (fun _ h9 => List.mem_cons_of_mem _ (List.mem_append_right _ h9)) hown hK hP 0 rfl rfl 22 (by decide) (hts (.fieldLink RX12 146 "SeatsRoundModel" "taped" "I") (List.mem_of_getElem? (i := 1) rfl)) (fun _ h9 => h9) rfl dX12_feed_53 ?_
    change W _ _ _ _ _ _ _ _ _ _ _ _ _ _ _ (F0 m 56 ls [.int 0, .ref h0])
    refine lv_iconst (v := 1) hx hb dX12_feed_56 (by decide) ?_
    refine lv_iadd hx hb dX12_feed_57 ?_
    refine lv_topi (fun f_10 ef_10 => ?_)
    obtain rfl : f_10 = 1 := ef_10.trans (by decide)
    refine va_put (D := (dC, dI)) (ci := 12) (v := .int 1) (C := RX12) (T := TX12) (N := 59) hx hb hts (fun _ h9 => List.mem_cons_of_mem _ (List.mem_append_right _ h9)) tyX12 tyX12_ok nmX12 hown hK hP hD hS 0 rfl rfl 22 (by decide) (hts (.fieldLink RX12 146 "SeatsRoundModel" "taped" "I") (List.mem_of_getElem? (i := 1) rfl)) (fun _ h9 => h9) rfl (tyX12_ok 22 (by decide)) rfl rfl (Nat.le_of_ble_eq_true rfl) dX12_feed_58 (fun H locs hP hD hS => ?_)
    have hP : va_P (dC, dI) vwCl [(h0, .inr (12, [.int 0, .ref m1, .ref m2, .int 0, .ref m4, .ref m5, .ref m6, .ref m7, .ref m8, .int 0, .ref m10, .ref m11, .ref m12, .ref m13, .ref m14, .ref m15, .ref m16, .ref m17, .ref m18, .ref m19, .ref m20, .ref m21, .int 1, .ref m23, .ref m24, .ref m25, .ref m26, .ref m27, .ref m28, .int 0, .int 0, .ref m31, .int 0, .ref m33, .int 0, .ref m35, .int (-1), .ref m37, .int 0, .ref m39, .ref m40, .ref m41, .ref m42, .ref m43, .int 0, .int 0, .int 0, .int 0, .int 0, .int 0, .int 0, .int 0, .ref m52, .int 0, .ref m54, .int 0, .ref m56, .ref m57, .ref m58])), (m21, .inl (cy 0, 80, .inl g_9))] H := hP
    have hD : va_D A [(h0, .inr (12, [.int 0, .ref m1, .ref m2, .int 0, .ref m4, .ref m5, .ref m6, .ref m7, .ref m8, .int 0, .ref m10, .ref m11, .ref m12, .ref m13, .ref m14, .ref m15, .ref m16, .ref m17, .ref m18, .ref m19, .ref m20, .ref m21, .int 1, .ref m23, .ref m24, .ref m25, .ref m26, .ref m27, .ref m28, .int 0, .int 0, .ref m31, .int 0, .ref m33, .int 0, .ref m35, .int (-1), .ref m37, .int 0, .ref m39, .ref m40, .ref m41, .ref m42, .ref m43, .int 0, .int 0, .int 0, .int 0, .int 0, .int 0, .int 0, .int 0, .ref m52, .int 0, .ref m54, .int 0, .ref m56, .ref m57, .ref m58])), (m21, .inl (cy 0, 80, .inl g_9))] := hD
    refine lv_iinc (v := 1) (lv' := [(3, .int 1), (0, .ref h0), (1, .int 3), (2, .int p0)]) hx hb dX12_feed_61 hl (k := 0) rfl (by decide) (by decide) rfl (fun ls hl => ?_)
    refine lv_goto (tgt := 27) hx hb dX12_feed_64 (by decide) ?_
    refine lv_iload_n hx hb dX12_feed_27 rfl (lv_at hl 0 rfl) ?_
    refine lv_iload_n hx hb dX12_feed_28 rfl (lv_at hl 2 rfl) ?_
    refine lv_icmp_ge (tgt := 67) hx hb dX12_feed_29 (by decide) (fun c_11 => absurd c_11 (by decide)) (fun _ => ?_)
    change W _ _ _ _ _ _ _ _ _ _ _ _ _ _ _ (F0 m 32 ls [])
    refine lv_aload_n hx hb dX12_feed_32 rfl (lv_at hl 1 rfl) ?_
    refine va_get (D := (dC, dI)) (ci := 12) (v := .ref m21) (C := RX12) (T := TX12) (N := 59) hx hb hts (fun _ h9 => List.mem_cons_of_mem _ (List.mem_append_right _ h9)) hown hK hP 0 rfl rfl 21 (by decide) (hts (.fieldLink RX12 65 "SeatsRoundModel" "tape" "[I") (List.mem_of_getElem? (i := 2) rfl)) (fun _ h9 => h9) rfl dX12_feed_33 ?_
    refine lv_aload_n hx hb dX12_feed_36 rfl (lv_at hl 1 rfl) ?_
    refine va_get (D := (dC, dI)) (ci := 12) (v := .int 1) (C := RX12) (T := TX12) (N := 59) hx hb hts (fun _ h9 => List.mem_cons_of_mem _ (List.mem_append_right _ h9)) hown hK hP 0 rfl rfl 22 (by decide) (hts (.fieldLink RX12 146 "SeatsRoundModel" "taped" "I") (List.mem_of_getElem? (i := 1) rfl)) (fun _ h9 => h9) rfl dX12_feed_37 ?_
    refine lv_iload_n hx hb dX12_feed_40 rfl (lv_at hl 3 rfl) ?_
    refine lv_bipush (v := 8) hx hb dX12_feed_41 (by decide) ?_
    refine lv_iload_n hx hb dX12_feed_43 rfl (lv_at hl 0 rfl) ?_
    refine lv_imul hx hb dX12_feed_44 ?_
    refine lv_topi (fun f_12 ef_12 => ?_)
    obtain rfl : f_12 = 8 := ef_12.trans (by decide)
    change W _ _ _ _ _ _ _ _ _ _ _ _ _ _ _ (F0 m 45 ls [.int 8, .int p0, .int 1, .ref m21])
    refine lv_ishr hx hb dX12_feed_45 ?_
    refine lv_topi (fun f_13 ef_13 => ?_)
    refine lv_sipush (v := 255) hx hb dX12_feed_46 (by decide) ?_
    refine lv_iand hx hb dX12_feed_49 ?_
    refine lv_topi (fun f_14 ef_14 => ?_)
    refine va_iast hx hb hK hP hD hS 1 0 rfl rfl (vp_in_nI (n := 1) (N := 80) (by decide) (by decide)) dX12_feed_50 (fun H locs hP hD hS => ?_)
    generalize upd g_9 (Int32.toNatClampNeg 1) f_14 = g_15 at hP hD
    have hP : va_P (dC, dI) vwCl [(h0, .inr (12, [.int 0, .ref m1, .ref m2, .int 0, .ref m4, .ref m5, .ref m6, .ref m7, .ref m8, .int 0, .ref m10, .ref m11, .ref m12, .ref m13, .ref m14, .ref m15, .ref m16, .ref m17, .ref m18, .ref m19, .ref m20, .ref m21, .int 1, .ref m23, .ref m24, .ref m25, .ref m26, .ref m27, .ref m28, .int 0, .int 0, .ref m31, .int 0, .ref m33, .int 0, .ref m35, .int (-1), .ref m37, .int 0, .ref m39, .ref m40, .ref m41, .ref m42, .ref m43, .int 0, .int 0, .int 0, .int 0, .int 0, .int 0, .int 0, .int 0, .ref m52, .int 0, .ref m54, .int 0, .ref m56, .ref m57, .ref m58])), (m21, .inl (cy 0, 80, .inl g_15))] H := hP
    have hD : va_D A [(h0, .inr (12, [.int 0, .ref m1, .ref m2, .int 0, .ref m4, .ref m5, .ref m6, .ref m7, .ref m8, .int 0, .ref m10, .ref m11, .ref m12, .ref m13, .ref m14, .ref m15, .ref m16, .ref m17, .ref m18, .ref m19, .ref m20, .ref m21, .int 1, .ref m23, .ref m24, .ref m25, .ref m26, .ref m27, .ref m28, .int 0, .int 0, .ref m31, .int 0, .ref m33, .int 0, .ref m35, .int (-1), .ref m37, .int 0, .ref m39, .ref m40, .ref m41, .ref m42, .ref m43, .int 0, .int 0, .int 0, .int 0, .int 0, .int 0, .int 0, .int 0, .ref m52, .int 0, .ref m54, .int 0, .ref m56, .ref m57, .ref m58])), (m21, .inl (cy 0, 80, .inl g_15))] := hD
    refine lv_aload_n hx hb dX12_feed_51 rfl (lv_at hl 1 rfl) ?_
    refine lv_dup hx hb dX12_feed_52 rfl ?_
    refine va_get (D := (dC, dI)) (ci := 12) (v := .int 1) (C := RX12) (T := TX12) (N := 59) hx hb hts (fun _ h9 => List.mem_cons_of_mem _ (List.mem_append_right _ h9)) hown hK hP 0 rfl rfl 22 (by decide) (hts (.fieldLink RX12 146 "SeatsRoundModel" "taped" "I") (List.mem_of_getElem? (i := 1) rfl)) (fun _ h9 => h9) rfl dX12_feed_53 ?_
    refine lv_iconst (v := 1) hx hb dX12_feed_56 (by decide) ?_
    change W _ _ _ _ _ _ _ _ _ _ _ _ _ _ _ (F0 m 57 ls [.int 1, .int 1, .ref h0])
    refine lv_iadd hx hb dX12_feed_57 ?_
    refine lv_topi (fun f_16 ef_16 => ?_)
    obtain rfl : f_16 = 2 := ef_16.trans (by decide)
    refine va_put (D := (dC, dI)) (ci := 12) (v := .int 2) (C := RX12) (T := TX12) (N := 59) hx hb hts (fun _ h9 => List.mem_cons_of_mem _ (List.mem_append_right _ h9)) tyX12 tyX12_ok nmX12 hown hK hP hD hS 0 rfl rfl 22 (by decide) (hts (.fieldLink RX12 146 "SeatsRoundModel" "taped" "I") (List.mem_of_getElem? (i := 1) rfl)) (fun _ h9 => h9) rfl (tyX12_ok 22 (by decide)) rfl rfl (Nat.le_of_ble_eq_true rfl) dX12_feed_58 (fun H locs hP hD hS => ?_)
    have hP : va_P (dC, dI) vwCl [(h0, .inr (12, [.int 0, .ref m1, .ref m2, .int 0, .ref m4, .ref m5, .ref m6, .ref m7, .ref m8, .int 0, .ref m10, .ref m11, .ref m12, .ref m13, .ref m14, .ref m15, .ref m16, .ref m17, .ref m18, .ref m19, .ref m20, .ref m21, .int 2, .ref m23, .ref m24, .ref m25, .ref m26, .ref m27, .ref m28, .int 0, .int 0, .ref m31, .int 0, .ref m33, .int 0, .ref m35, .int (-1), .ref m37, .int 0, .ref m39, .ref m40, .ref m41, .ref m42, .ref m43, .int 0, .int 0, .int 0, .int 0, .int 0, .int 0, .int 0, .int 0, .ref m52, .int 0, .ref m54, .int 0, .ref m56, .ref m57, .ref m58])), (m21, .inl (cy 0, 80, .inl g_15))] H := hP
    have hD : va_D A [(h0, .inr (12, [.int 0, .ref m1, .ref m2, .int 0, .ref m4, .ref m5, .ref m6, .ref m7, .ref m8, .int 0, .ref m10, .ref m11, .ref m12, .ref m13, .ref m14, .ref m15, .ref m16, .ref m17, .ref m18, .ref m19, .ref m20, .ref m21, .int 2, .ref m23, .ref m24, .ref m25, .ref m26, .ref m27, .ref m28, .int 0, .int 0, .ref m31, .int 0, .ref m33, .int 0, .ref m35, .int (-1), .ref m37, .int 0, .ref m39, .ref m40, .ref m41, .ref m42, .ref m43, .int 0, .int 0, .int 0, .int 0, .int 0, .int 0, .int 0, .int 0, .ref m52, .int 0, .ref m54, .int 0, .ref m56, .ref m57, .ref m58])), (m21, .inl (cy 0, 80, .inl g_15))] := hD
    refine lv_iinc (v := 2) (lv' := [(3, .int 2), (0, .ref h0), (1, .int 3), (2, .int p0)]) hx hb dX12_feed_61 hl (k := 0) rfl (by decide) (by decide) rfl (fun ls hl => ?_)
    refine lv_goto (tgt := 27) hx hb dX12_feed_64 (by decide) ?_
    refine lv_iload_n hx hb dX12_feed_27 rfl (lv_at hl 0 rfl) ?_
    refine lv_iload_n hx hb dX12_feed_28 rfl (lv_at hl 2 rfl) ?_
    refine lv_icmp_ge (tgt := 67) hx hb dX12_feed_29 (by decide) (fun c_17 => absurd c_17 (by decide)) (fun _ => ?_)
    refine lv_aload_n hx hb dX12_feed_32 rfl (lv_at hl 1 rfl) ?_
    change W _ _ _ _ _ _ _ _ _ _ _ _ _ _ _ (F0 m 33 ls [.ref h0])
    refine va_get (D := (dC, dI)) (ci := 12) (v := .ref m21) (C := RX12) (T := TX12) (N := 59) hx hb hts (fun _ h9 => List.mem_cons_of_mem _ (List.mem_append_right _ h9)) hown hK hP 0 rfl rfl 21 (by decide) (hts (.fieldLink RX12 65 "SeatsRoundModel" "tape" "[I") (List.mem_of_getElem? (i := 2) rfl)) (fun _ h9 => h9) rfl dX12_feed_33 ?_
    refine lv_aload_n hx hb dX12_feed_36 rfl (lv_at hl 1 rfl) ?_
    refine va_get (D := (dC, dI)) (ci := 12) (v := .int 2) (C := RX12) (T := TX12) (N := 59) hx hb hts (fun _ h9 => List.mem_cons_of_mem _ (List.mem_append_right _ h9)) hown hK hP 0 rfl rfl 22 (by decide) (hts (.fieldLink RX12 146 "SeatsRoundModel" "taped" "I") (List.mem_of_getElem? (i := 1) rfl)) (fun _ h9 => h9) rfl dX12_feed_37 ?_
    refine lv_iload_n hx hb dX12_feed_40 rfl (lv_at hl 3 rfl) ?_
    refine lv_bipush (v := 8) hx hb dX12_feed_41 (by decide) ?_
    refine lv_iload_n hx hb dX12_feed_43 rfl (lv_at hl 0 rfl) ?_
    refine lv_imul hx hb dX12_feed_44 ?_
    refine lv_topi (fun f_18 ef_18 => ?_)
    obtain rfl : f_18 = 16 := ef_18.trans (by decide)
    refine lv_ishr hx hb dX12_feed_45 ?_
    refine lv_topi (fun f_19 ef_19 => ?_)
    change W _ _ _ _ _ _ _ _ _ _ _ _ _ _ _ (F0 m 46 ls [.int f_19, .int 2, .ref m21])
    refine lv_sipush (v := 255) hx hb dX12_feed_46 (by decide) ?_
    refine lv_iand hx hb dX12_feed_49 ?_
    refine lv_topi (fun f_20 ef_20 => ?_)
    refine va_iast hx hb hK hP hD hS 1 0 rfl rfl (vp_in_nI (n := 2) (N := 80) (by decide) (by decide)) dX12_feed_50 (fun H locs hP hD hS => ?_)
    generalize upd g_15 (Int32.toNatClampNeg 2) f_20 = g_21 at hP hD
    have hP : va_P (dC, dI) vwCl [(h0, .inr (12, [.int 0, .ref m1, .ref m2, .int 0, .ref m4, .ref m5, .ref m6, .ref m7, .ref m8, .int 0, .ref m10, .ref m11, .ref m12, .ref m13, .ref m14, .ref m15, .ref m16, .ref m17, .ref m18, .ref m19, .ref m20, .ref m21, .int 2, .ref m23, .ref m24, .ref m25, .ref m26, .ref m27, .ref m28, .int 0, .int 0, .ref m31, .int 0, .ref m33, .int 0, .ref m35, .int (-1), .ref m37, .int 0, .ref m39, .ref m40, .ref m41, .ref m42, .ref m43, .int 0, .int 0, .int 0, .int 0, .int 0, .int 0, .int 0, .int 0, .ref m52, .int 0, .ref m54, .int 0, .ref m56, .ref m57, .ref m58])), (m21, .inl (cy 0, 80, .inl g_21))] H := hP
    have hD : va_D A [(h0, .inr (12, [.int 0, .ref m1, .ref m2, .int 0, .ref m4, .ref m5, .ref m6, .ref m7, .ref m8, .int 0, .ref m10, .ref m11, .ref m12, .ref m13, .ref m14, .ref m15, .ref m16, .ref m17, .ref m18, .ref m19, .ref m20, .ref m21, .int 2, .ref m23, .ref m24, .ref m25, .ref m26, .ref m27, .ref m28, .int 0, .int 0, .ref m31, .int 0, .ref m33, .int 0, .ref m35, .int (-1), .ref m37, .int 0, .ref m39, .ref m40, .ref m41, .ref m42, .ref m43, .int 0, .int 0, .int 0, .int 0, .int 0, .int 0, .int 0, .int 0, .ref m52, .int 0, .ref m54, .int 0, .ref m56, .ref m57, .ref m58])), (m21, .inl (cy 0, 80, .inl g_21))] := hD
    refine lv_aload_n hx hb dX12_feed_51 rfl (lv_at hl 1 rfl) ?_
    refine lv_dup hx hb dX12_feed_52 rfl ?_
    refine va_get (D := (dC, dI)) (ci := 12) (v := .int 2) (C := RX12) (T := TX12) (N := 59) hx hb hts (fun _ h9 => List.mem_cons_of_mem _ (List.mem_append_right _ h9)) hown hK hP 0 rfl rfl 22 (by decide) (hts (.fieldLink RX12 146 "SeatsRoundModel" "taped" "I") (List.mem_of_getElem? (i := 1) rfl)) (fun _ h9 => h9) rfl dX12_feed_53 ?_
    refine lv_iconst (v := 1) hx hb dX12_feed_56 (by decide) ?_
    refine lv_iadd hx hb dX12_feed_57 ?_
    refine lv_topi (fun f_22 ef_22 => ?_)
    obtain rfl : f_22 = 3 := ef_22.trans (by decide)
    change W _ _ _ _ _ _ _ _ _ _ _ _ _ _ _ (F0 m 58 ls [.int 3, .ref h0])
    refine va_put (D := (dC, dI)) (ci := 12) (v := .int 3) (C := RX12) (T := TX12) (N := 59) hx hb hts (fun _ h9 => List.mem_cons_of_mem _ (List.mem_append_right _ h9)) tyX12 tyX12_ok nmX12 hown hK hP hD hS 0 rfl rfl 22 (by decide) (hts (.fieldLink RX12 146 "SeatsRoundModel" "taped" "I") (List.mem_of_getElem? (i := 1) rfl)) (fun _ h9 => h9) rfl (tyX12_ok 22 (by decide)) rfl rfl (Nat.le_of_ble_eq_true rfl) dX12_feed_58 (fun H locs hP hD hS => ?_)
    have hP : va_P (dC, dI) vwCl [(h0, .inr (12, [.int 0, .ref m1, .ref m2, .int 0, .ref m4, .ref m5, .ref m6, .ref m7, .ref m8, .int 0, .ref m10, .ref m11, .ref m12, .ref m13, .ref m14, .ref m15, .ref m16, .ref m17, .ref m18, .ref m19, .ref m20, .ref m21, .int 3, .ref m23, .ref m24, .ref m25, .ref m26, .ref m27, .ref m28, .int 0, .int 0, .ref m31, .int 0, .ref m33, .int 0, .ref m35, .int (-1), .ref m37, .int 0, .ref m39, .ref m40, .ref m41, .ref m42, .ref m43, .int 0, .int 0, .int 0, .int 0, .int 0, .int 0, .int 0, .int 0, .ref m52, .int 0, .ref m54, .int 0, .ref m56, .ref m57, .ref m58])), (m21, .inl (cy 0, 80, .inl g_21))] H := hP
    have hD : va_D A [(h0, .inr (12, [.int 0, .ref m1, .ref m2, .int 0, .ref m4, .ref m5, .ref m6, .ref m7, .ref m8, .int 0, .ref m10, .ref m11, .ref m12, .ref m13, .ref m14, .ref m15, .ref m16, .ref m17, .ref m18, .ref m19, .ref m20, .ref m21, .int 3, .ref m23, .ref m24, .ref m25, .ref m26, .ref m27, .ref m28, .int 0, .int 0, .ref m31, .int 0, .ref m33, .int 0, .ref m35, .int (-1), .ref m37, .int 0, .ref m39, .ref m40, .ref m41, .ref m42, .ref m43, .int 0, .int 0, .int 0, .int 0, .int 0, .int 0, .int 0, .int 0, .ref m52, .int 0, .ref m54, .int 0, .ref m56, .ref m57, .ref m58])), (m21, .inl (cy 0, 80, .inl g_21))] := hD
    refine lv_iinc (v := 3) (lv' := [(3, .int 3), (0, .ref h0), (1, .int 3), (2, .int p0)]) hx hb dX12_feed_61 hl (k := 0) rfl (by decide) (by decide) rfl (fun ls hl => ?_)
    refine lv_goto (tgt := 27) hx hb dX12_feed_64 (by decide) ?_
    refine lv_iload_n hx hb dX12_feed_27 rfl (lv_at hl 0 rfl) ?_
    refine lv_iload_n hx hb dX12_feed_28 rfl (lv_at hl 2 rfl) ?_
    refine lv_icmp_ge (tgt := 67) hx hb dX12_feed_29 (by decide) (fun _ => ?_) (fun c_23 => absurd c_23 (by decide))
    refine lv_aload_n hx hb dX12_feed_67 rfl (lv_at hl 1 rfl) ?_
    refine va_get (D := (dC, dI)) (ci := 12) (v := .int 3) (C := RX12) (T := TX12) (N := 59) hx hb hts (fun _ h9 => List.mem_cons_of_mem _ (List.mem_append_right _ h9)) hown hK hP 0 rfl rfl 22 (by decide) (hts (.fieldLink RX12 146 "SeatsRoundModel" "taped" "I") (List.mem_of_getElem? (i := 1) rfl)) (fun _ h9 => h9) rfl dX12_feed_68 ?_
    change W _ _ _ _ _ _ _ _ _ _ _ _ _ _ _ (F0 m 71 ls [.int 3])
    exact W.iret (v := 3) hx hb hr (fun t ht hW => ⟨⟨3, (), rfl, (by first | rfl | (exfalso; omega)), trivial⟩, hS.F ht⟩) hS.2.2 dX12_feed_71
  · have ic_1 : ¬ ((1 : Int) ≤ (3 : Int) ∧ (3 : Int) ≤ (4 : Int)) := c_1
    exact absurd True.intro (by omega)
set_option maxHeartbeats 4000000 in
set_option maxRecDepth 100000 in
theorem c_M_feed_4 (l : Launch) (dC : Nat → ClassId) (dI : Nat → Nat → Nat) (cy : Nat → ClassId) (h0 : Nat) (m1 : Nat) (m2 : Nat) (m4 : Nat) (m5 : Nat) (m6 : Nat) (m7 : Nat) (m8 : Nat) (m10 : Nat) (m11 : Nat) (m12 : Nat) (m13 : Nat) (m14 : Nat) (m15 : Nat) (m16 : Nat) (m17 : Nat) (m18 : Nat) (m19 : Nat) (m20 : Nat) (m21 : Nat) (m23 : Nat) (m24 : Nat) (m25 : Nat) (m26 : Nat) (m27 : Nat) (m28 : Nat) (m31 : Nat) (m33 : Nat) (m35 : Nat) (m37 : Nat) (m39 : Nat) (m40 : Nat) (m41 : Nat) (m42 : Nat) (m43 : Nat) (m52 : Nat) (m54 : Nat) (m56 : Nat) (m57 : Nat) (m58 : Nat) (p0 : Int32) (sz : Nat)  : Met l yX12_feed wsX12_feed ({ frames := 2, cells := 0, slots := 0, locals := 45 }) (va_Pc [.ref h0, .int 4, .int p0] (wPre (dC, dI) cy [(h0, .inr (12, [.int 0, .ref m1, .ref m2, .int 0, .ref m4, .ref m5, .ref m6, .ref m7, .ref m8, .int 0, .ref m10, .ref m11, .ref m12, .ref m13, .ref m14, .ref m15, .ref m16, .ref m17, .ref m18, .ref m19, .ref m20, .ref m21, .int 0, .ref m23, .ref m24, .ref m25, .ref m26, .ref m27, .ref m28, .int 0, .int 0, .ref m31, .int 0, .ref m33, .int 0, .ref m35, .int (-1), .ref m37, .int 0, .ref m39, .ref m40, .ref m41, .ref m42, .ref m43, .int 0, .int 0, .int 0, .int 0, .int 0, .int 0, .int 0, .int 0, .ref m52, .int 0, .ref m54, .int 0, .ref m56, .ref m57, .ref m58])), (m21, .inl (cy 0, 80, .inl (fun _ => 0)))] sz)) (va_Qi (fun (r : Int32) (u : Unit) => r = 4) (fun (u : Unit) t => True) (va_A [(h0, .inr (12, [.int 0, .ref m1, .ref m2, .int 0, .ref m4, .ref m5, .ref m6, .ref m7, .ref m8, .int 0, .ref m10, .ref m11, .ref m12, .ref m13, .ref m14, .ref m15, .ref m16, .ref m17, .ref m18, .ref m19, .ref m20, .ref m21, .int 0, .ref m23, .ref m24, .ref m25, .ref m26, .ref m27, .ref m28, .int 0, .int 0, .ref m31, .int 0, .ref m33, .int 0, .ref m35, .int (-1), .ref m37, .int 0, .ref m39, .ref m40, .ref m41, .ref m42, .ref m43, .int 0, .int 0, .int 0, .int 0, .int 0, .int 0, .int 0, .int 0, .ref m52, .int 0, .ref m54, .int 0, .ref m56, .ref m57, .ref m58])), (m21, .inl (cy 0, 80, .inl (fun _ => 0)))] sz)) 0 0 (va_A [(h0, .inr (12, [.int 0, .ref m1, .ref m2, .int 0, .ref m4, .ref m5, .ref m6, .ref m7, .ref m8, .int 0, .ref m10, .ref m11, .ref m12, .ref m13, .ref m14, .ref m15, .ref m16, .ref m17, .ref m18, .ref m19, .ref m20, .ref m21, .int 0, .ref m23, .ref m24, .ref m25, .ref m26, .ref m27, .ref m28, .int 0, .int 0, .ref m31, .int 0, .ref m33, .int 0, .ref m35, .int (-1), .ref m37, .int 0, .ref m39, .ref m40, .ref m41, .ref m42, .ref m43, .int 0, .int 0, .int 0, .int 0, .int 0, .int 0, .int 0, .int 0, .ref m52, .int 0, .ref m54, .int 0, .ref m56, .ref m57, .ref m58])), (m21, .inl (cy 0, 80, .inl (fun _ => 0)))] sz) := by
  refine Met.ofW (cc := cX12_feed) (maxL := 4) (ret := (some .int)) (by decide) rfl ?_
  intro p e s m args below meth c s₁ B hml hv
  obtain ⟨rfl, hsz, hP, hK, hD0, hN⟩ := hv
  have hx := B.exec
  have hb := B.bytes
  have hr := B.returns
  have hts := atoms_spec (ws := wsX12_feed) B.pre
  have hown : s.vm.findClass RX12 = some m.cls := findClass_of_methodNamed B.named
  have hlocks := B.notSynchronized
  subst hsz
  have hD := hD0.self (sz := s.heap.size)
  generalize hAe : va_A [(h0, .inr (12, [.int 0, .ref m1, .ref m2, .int 0, .ref m4, .ref m5, .ref m6, .ref m7, .ref m8, .int 0, .ref m10, .ref m11, .ref m12, .ref m13, .ref m14, .ref m15, .ref m16, .ref m17, .ref m18, .ref m19, .ref m20, .ref m21, .int 0, .ref m23, .ref m24, .ref m25, .ref m26, .ref m27, .ref m28, .int 0, .int 0, .ref m31, .int 0, .ref m33, .int 0, .ref m35, .int (-1), .ref m37, .int 0, .ref m39, .ref m40, .ref m41, .ref m42, .ref m43, .int 0, .int 0, .int 0, .int 0, .int 0, .int 0, .int 0, .int 0, .ref m52, .int 0, .ref m54, .int 0, .ref m56, .ref m57, .ref m58])), (m21, .inl (cy 0, 80, .inl (fun _ => 0)))] s.heap.size = A at hD ⊢
  have hA : ∀ q : Nat, s.heap.size ≤ q → A q := fun q h => by rw [← hAe]; exact Or.inr h
  have hS : va_S A s.heap s.heap [] := va_S.rf
  have hl := lv_entry ([.ref h0, .int 4, .int p0]) (n := 4) (Nat.le_of_ble_eq_true rfl)
  rw [lg_entry_eq]
  generalize (lg_sl ([.ref h0, .int 4, .int p0]) ++ List.replicate (4 - (lg_sl ([.ref h0, .int 4, .int p0])).length) Slot.unset).toArray = ls at hl ⊢
  have hl : lv_has ls 4 [(0, .ref h0), (1, .int 4), (2, .int p0)] := hl
  refine lv_iload_n hx hb dX12_feed_0 rfl (lv_at hl 1 rfl) ?_
  refine lv_iconst (v := 1) hx hb dX12_feed_1 (by decide) ?_
  refine lv_iconst (v := 4) hx hb dX12_feed_2 (by decide) ?_
  change W _ _ _ _ _ _ _ _ _ _ _ _ _ _ _ (F0 m 3 ls [.int 4, .int 1, .int 4])
  have hPc := hP.sub (ws' := []) [] rfl
  have hDc := hD.sub (ws' := []) [] (by decide) rfl
  refine vz_callSi (va_runS (As := [.int 4, .int 1, .int 4]) (rest := []) ⟨hx, hb, hml, hown, hts⟩ (c_M_in l dC dI cy 4 1 4 s.heap.size) (va_cwS 3 hts gX12_feed_X12_in rfl rfl rfl (by decide +kernel) ⟨Nat.le_of_ble_eq_true rfl, Nat.le_of_ble_eq_true rfl⟩) (wp_S hK hN hPc hDc) rfl rfl hl.1 rfl (lv_room (Nat.le_of_ble_eq_true rfl)) dX12_feed_3 ⟨Nat.le_of_ble_eq_true rfl, Nat.le_of_ble_eq_true rfl⟩) (fun r_1 hw_1 => ?_)
  rcases hw_1 with ⟨c_1, hw_1⟩ | ⟨c_1, hw_1⟩ <;> subst hw_1
  · have ic_1 : (1 : Int) ≤ (4 : Int) ∧ (4 : Int) ≤ (4 : Int) := c_1
    refine lv_if_ne (tgt := 11) hx hb dX12_feed_6 (by decide) (fun _ => ?_) (fun c_2 => absurd c_2 (by decide))
    refine lv_aload_n hx hb dX12_feed_11 rfl (lv_at hl 0 rfl) ?_
    refine va_get (D := (dC, dI)) (ci := 12) (v := .int 0) (C := RX12) (T := TX12) (N := 59) hx hb hts (fun _ h9 => List.mem_cons_of_mem _ (List.mem_append_right _ h9)) hown hK hP 0 rfl rfl 22 (by decide) (hts (.fieldLink RX12 146 "SeatsRoundModel" "taped" "I") (List.mem_of_getElem? (i := 1) rfl)) (fun _ h9 => h9) rfl dX12_feed_12 ?_
    refine lv_iload_n hx hb dX12_feed_15 rfl (lv_at hl 1 rfl) ?_
    refine lv_iadd hx hb dX12_feed_16 ?_
    refine lv_topi (fun f_3 ef_3 => ?_)
    obtain rfl : f_3 = 4 := ef_3.trans (by decide)
    refine lv_bipush (v := 80) hx hb dX12_feed_17 (by decide) ?_
    refine lv_icmp_le (tgt := 25) hx hb dX12_feed_19 (by decide) (fun _ => ?_) (fun c_4 => absurd c_4 (by decide))
    refine lv_iconst (v := 0) hx hb dX12_feed_25 (by decide) ?_
    change W _ _ _ _ _ _ _ _ _ _ _ _ _ _ _ (F0 m 26 ls [.int 0])
    refine lv_istore_n (lv' := [(3, .int 0), (0, .ref h0), (1, .int 4), (2, .int p0)]) hx hb dX12_feed_26 rfl hl (by decide) rfl (fun ls hl => ?_)
    refine lv_iload_n hx hb dX12_feed_27 rfl (lv_at hl 0 rfl) ?_
    refine lv_iload_n hx hb dX12_feed_28 rfl (lv_at hl 2 rfl) ?_
    refine lv_icmp_ge (tgt := 67) hx hb dX12_feed_29 (by decide) (fun c_5 => absurd c_5 (by decide)) (fun _ => ?_)
    refine lv_aload_n hx hb dX12_feed_32 rfl (lv_at hl 1 rfl) ?_
    refine va_get (D := (dC, dI)) (ci := 12) (v := .ref m21) (C := RX12) (T := TX12) (N := 59) hx hb hts (fun _ h9 => List.mem_cons_of_mem _ (List.mem_append_right _ h9)) hown hK hP 0 rfl rfl 21 (by decide) (hts (.fieldLink RX12 65 "SeatsRoundModel" "tape" "[I") (List.mem_of_getElem? (i := 2) rfl)) (fun _ h9 => h9) rfl dX12_feed_33 ?_
    refine lv_aload_n hx hb dX12_feed_36 rfl (lv_at hl 1 rfl) ?_
    refine va_get (D := (dC, dI)) (ci := 12) (v := .int 0) (C := RX12) (T := TX12) (N := 59) hx hb hts (fun _ h9 => List.mem_cons_of_mem _ (List.mem_append_right _ h9)) hown hK hP 0 rfl rfl 22 (by decide) (hts (.fieldLink RX12 146 "SeatsRoundModel" "taped" "I") (List.mem_of_getElem? (i := 1) rfl)) (fun _ h9 => h9) rfl dX12_feed_37 ?_
    change W _ _ _ _ _ _ _ _ _ _ _ _ _ _ _ (F0 m 40 ls [.int 0, .ref m21])
    refine lv_iload_n hx hb dX12_feed_40 rfl (lv_at hl 3 rfl) ?_
    refine lv_bipush (v := 8) hx hb dX12_feed_41 (by decide) ?_
    refine lv_iload_n hx hb dX12_feed_43 rfl (lv_at hl 0 rfl) ?_
    refine lv_imul hx hb dX12_feed_44 ?_
    refine lv_topi (fun f_6 ef_6 => ?_)
    obtain rfl : f_6 = 0 := ef_6.trans (by decide)
    refine lv_ishr hx hb dX12_feed_45 ?_
    refine lv_topi (fun f_7 ef_7 => ?_)
    refine lv_sipush (v := 255) hx hb dX12_feed_46 (by decide) ?_
    refine lv_iand hx hb dX12_feed_49 ?_
    refine lv_topi (fun f_8 ef_8 => ?_)
    refine va_iast hx hb hK hP hD hS 1 0 rfl rfl (vp_in_nI (n := 0) (N := 80) (by decide) (by decide)) dX12_feed_50 (fun H locs hP hD hS => ?_)
    generalize upd (fun _ => 0) (Int32.toNatClampNeg 0) f_8 = g_9 at hP hD
    have hP : va_P (dC, dI) vwCl [(h0, .inr (12, [.int 0, .ref m1, .ref m2, .int 0, .ref m4, .ref m5, .ref m6, .ref m7, .ref m8, .int 0, .ref m10, .ref m11, .ref m12, .ref m13, .ref m14, .ref m15, .ref m16, .ref m17, .ref m18, .ref m19, .ref m20, .ref m21, .int 0, .ref m23, .ref m24, .ref m25, .ref m26, .ref m27, .ref m28, .int 0, .int 0, .ref m31, .int 0, .ref m33, .int 0, .ref m35, .int (-1), .ref m37, .int 0, .ref m39, .ref m40, .ref m41, .ref m42, .ref m43, .int 0, .int 0, .int 0, .int 0, .int 0, .int 0, .int 0, .int 0, .ref m52, .int 0, .ref m54, .int 0, .ref m56, .ref m57, .ref m58])), (m21, .inl (cy 0, 80, .inl g_9))] H := hP
    have hD : va_D A [(h0, .inr (12, [.int 0, .ref m1, .ref m2, .int 0, .ref m4, .ref m5, .ref m6, .ref m7, .ref m8, .int 0, .ref m10, .ref m11, .ref m12, .ref m13, .ref m14, .ref m15, .ref m16, .ref m17, .ref m18, .ref m19, .ref m20, .ref m21, .int 0, .ref m23, .ref m24, .ref m25, .ref m26, .ref m27, .ref m28, .int 0, .int 0, .ref m31, .int 0, .ref m33, .int 0, .ref m35, .int (-1), .ref m37, .int 0, .ref m39, .ref m40, .ref m41, .ref m42, .ref m43, .int 0, .int 0, .int 0, .int 0, .int 0, .int 0, .int 0, .int 0, .ref m52, .int 0, .ref m54, .int 0, .ref m56, .ref m57, .ref m58])), (m21, .inl (cy 0, 80, .inl g_9))] := hD
    change W _ _ _ _ _ _ _ _ _ _ _ _ _ _ _ (F0 m 51 ls [])
    refine lv_aload_n hx hb dX12_feed_51 rfl (lv_at hl 1 rfl) ?_
    refine lv_dup hx hb dX12_feed_52 rfl ?_
    refine va_get (D := (dC, dI)) (ci := 12) (v := .int 0) (C := RX12) (T := TX12) (N := 59) hx hb hts (fun _ h9 => List.mem_cons_of_mem _ (List.mem_append_right _ h9)) hown hK hP 0 rfl rfl 22 (by decide) (hts (.fieldLink RX12 146 "SeatsRoundModel" "taped" "I") (List.mem_of_getElem? (i := 1) rfl)) (fun _ h9 => h9) rfl dX12_feed_53 ?_
    refine lv_iconst (v := 1) hx hb dX12_feed_56 (by decide) ?_
    refine lv_iadd hx hb dX12_feed_57 ?_
    refine lv_topi (fun f_10 ef_10 => ?_)
    obtain rfl : f_10 = 1 := ef_10.trans (by decide)
    refine va_put (D := (dC, dI)) (ci := 12) (v := .int 1) (C := RX12) (T := TX12) (N := 59) hx hb hts (fun _ h9 => List.mem_cons_of_mem _ (List.mem_append_right _ h9)) tyX12 tyX12_ok nmX12 hown hK hP hD hS 0 rfl rfl 22 (by decide) (hts (.fieldLink RX12 146 "SeatsRoundModel" "taped" "I") (List.mem_of_getElem? (i := 1) rfl)) (fun _ h9 => h9) rfl (tyX12_ok 22 (by decide)) rfl rfl (Nat.le_of_ble_eq_true rfl) dX12_feed_58 (fun H locs hP hD hS => ?_)
    have hP : va_P (dC, dI) vwCl [(h0, .inr (12, [.int 0, .ref m1, .ref m2, .int 0, .ref m4, .ref m5, .ref m6, .ref m7, .ref m8, .int 0, .ref m10, .ref m11, .ref m12, .ref m13, .ref m14, .ref m15, .ref m16, .ref m17, .ref m18, .ref m19, .ref m20, .ref m21, .int 1, .ref m23, .ref m24, .ref m25, .ref m26, .ref m27, .ref m28, .int 0, .int 0, .ref m31, .int 0, .ref m33, .int 0, .ref m35, .int (-1), .ref m37, .int 0, .ref m39, .ref m40, .ref m41, .ref m42, .ref m43, .int 0, .int 0, .int 0, .int 0, .int 0, .int 0, .int 0, .int 0, .ref m52, .int 0, .ref m54, .int 0, .ref m56, .ref m57, .ref m58])), (m21, .inl (cy 0, 80, .inl g_9))] H := hP
    have hD : va_D A [(h0, .inr (12, [.int 0, .ref m1, .ref m2, .int 0, .ref m4, .ref m5, .ref m6, .ref m7, .ref m8, .int 0, .ref m10, .ref m11, .ref m12, .ref m13, .ref m14, .ref m15, .ref m16, .ref m17, .ref m18, .ref m19, .ref m20, .ref m21, .int 1, .ref m23, .ref m24, .ref m25, .ref m26, .ref m27, .ref m28, .int 0, .int 0, .ref m31, .int 0, .ref m33, .int 0, .ref m35, .int (-1), .ref m37, .int 0, .ref m39, .ref m40, .ref m41, .ref m42, .ref m43, .int 0, .int 0, .int 0, .int 0, .int 0, .int 0, .int 0, .int 0, .ref m52, .int 0, .ref m54, .int 0, .ref m56, .ref m57, .ref m58])), (m21, .inl (cy 0, 80, .inl g_9))] := hD
    refine lv_iinc (v := 1) (lv' := [(3, .int 1), (0, .ref h0), (1, .int 4), (2, .int p0)]) hx hb dX12_feed_61 hl (k := 0) rfl (by decide) (by decide) rfl (fun ls hl => ?_)
    refine lv_goto (tgt := 27) hx hb dX12_feed_64 (by decide) ?_
    refine lv_iload_n hx hb dX12_feed_27 rfl (lv_at hl 0 rfl) ?_
    refine lv_iload_n hx hb dX12_feed_28 rfl (lv_at hl 2 rfl) ?_
    refine lv_icmp_ge (tgt := 67) hx hb dX12_feed_29 (by decide) (fun c_11 => absurd c_11 (by decide)) (fun _ => ?_)
    refine lv_aload_n hx hb dX12_feed_32 rfl (lv_at hl 1 rfl) ?_
    refine va_get (D := (dC, dI)) (ci := 12) (v := .ref m21) (C := RX12) (T := TX12) (N := 59) hx hb hts (fun _ h9 => List.mem_cons_of_mem _ (List.mem_append_right _ h9)) hown hK hP 0 rfl rfl 21 (by decide) (hts (.fieldLink RX12 65 "SeatsRoundModel" "tape" "[I") (List.mem_of_getElem? (i := 2) rfl)) (fun _ h9 => h9) rfl dX12_feed_33 ?_
    refine lv_aload_n hx hb dX12_feed_36 rfl (lv_at hl 1 rfl) ?_
    refine va_get (D := (dC, dI)) (ci := 12) (v := .int 1) (C := RX12) (T := TX12) (N := 59) hx hb hts (fun _ h9 => List.mem_cons_of_mem _ (List.mem_append_right _ h9)) hown hK hP 0 rfl rfl 22 (by decide) (hts (.fieldLink RX12 146 "SeatsRoundModel" "taped" "I") (List.mem_of_getElem? (i := 1) rfl)) (fun _ h9 => h9) rfl dX12_feed_37 ?_
    refine lv_iload_n hx hb dX12_feed_40 rfl (lv_at hl 3 rfl) ?_
    change W _ _ _ _ _ _ _ _ _ _ _ _ _ _ _ (F0 m 41 ls [.int p0, .int 1, .ref m21])
    refine lv_bipush (v := 8) hx hb dX12_feed_41 (by decide) ?_
    refine lv_iload_n hx hb dX12_feed_43 rfl (lv_at hl 0 rfl) ?_
    refine lv_imul hx hb dX12_feed_44 ?_
    refine lv_topi (fun f_12 ef_12 => ?_)
    obtain rfl : f_12 = 8 := ef_12.trans (by decide)
    refine lv_ishr hx hb dX12_feed_45 ?_
    refine lv_topi (fun f_13 ef_13 => ?_)
    refine lv_sipush (v := 255) hx hb dX12_feed_46 (by decide) ?_
    refine lv_iand hx hb dX12_feed_49 ?_
    refine lv_topi (fun f_14 ef_14 => ?_)
    refine va_iast hx hb hK hP hD hS 1 0 rfl rfl (vp_in_nI (n := 1) (N := 80) (by decide) (by decide)) dX12_feed_50 (fun H locs hP hD hS => ?_)
    generalize upd g_9 (Int32.toNatClampNeg 1) f_14 = g_15 at hP hD
    have hP : va_P (dC, dI) vwCl [(h0, .inr (12, [.int 0, .ref m1, .ref m2, .int 0, .ref m4, .ref m5, .ref m6, .ref m7, .ref m8, .int 0, .ref m10, .ref m11, .ref m12, .ref m13, .ref m14, .ref m15, .ref m16, .ref m17, .ref m18, .ref m19, .ref m20, .ref m21, .int 1, .ref m23, .ref m24, .ref m25, .ref m26, .ref m27, .ref m28, .int 0, .int 0, .ref m31, .int 0, .ref m33, .int 0, .ref m35, .int (-1), .ref m37, .int 0, .ref m39, .ref m40, .ref m41, .ref m42, .ref m43, .int 0, .int 0, .int 0, .int 0, .int 0, .int 0, .int 0, .int 0, .ref m52, .int 0, .ref m54, .int 0, .ref m56, .ref m57, .ref m58])), (m21, .inl (cy 0, 80, .inl g_15))] H := hP
    have hD : va_D A [(h0, .inr (12, [.int 0, .ref m1, .ref m2, .int 0, .ref m4, .ref m5, .ref m6, .ref m7, .ref m8, .int 0, .ref m10, .ref m11, .ref m12, .ref m13, .ref m14, .ref m15, .ref m16, .ref m17, .ref m18, .ref m19, .ref m20, .ref m21, .int 1, .ref m23, .ref m24, .ref m25, .ref m26, .ref m27, .ref m28, .int 0, .int 0, .ref m31, .int 0, .ref m33, .int 0, .ref m35, .int (-1), .ref m37, .int 0, .ref m39, .ref m40, .ref m41, .ref m42, .ref m43, .int 0, .int 0, .int 0, .int 0, .int 0, .int 0, .int 0, .int 0, .ref m52, .int 0, .ref m54, .int 0, .ref m56, .ref m57, .ref m58])), (m21, .inl (cy 0, 80, .inl g_15))] := hD
    refine lv_aload_n hx hb dX12_feed_51 rfl (lv_at hl 1 rfl) ?_
    change W _ _ _ _ _ _ _ _ _ _ _ _ _ _ _ (F0 m 52 ls [.ref h0])
    refine lv_dup hx hb dX12_feed_52 rfl ?_
    refine va_get (D := (dC, dI)) (ci := 12) (v := .int 1) (C := RX12) (T := TX12) (N := 59) hx hb hts (fun _ h9 => List.mem_cons_of_mem _ (List.mem_append_right _ h9)) hown hK hP 0 rfl rfl 22 (by decide) (hts (.fieldLink RX12 146 "SeatsRoundModel" "taped" "I") (List.mem_of_getElem? (i := 1) rfl)) (fun _ h9 => h9) rfl dX12_feed_53 ?_
    refine lv_iconst (v := 1) hx hb dX12_feed_56 (by decide) ?_
    refine lv_iadd hx hb dX12_feed_57 ?_
    refine lv_topi (fun f_16 ef_16 => ?_)
    obtain rfl : f_16 = 2 := ef_16.trans (by decide)
    refine va_put (D := (dC, dI)) (ci := 12) (v := .int 2) (C := RX12) (T := TX12) (N := 59) hx hb hts (fun _ h9 => List.mem_cons_of_mem _ (List.mem_append_right _ h9)) tyX12 tyX12_ok nmX12 hown hK hP hD hS 0 rfl rfl 22 (by decide) (hts (.fieldLink RX12 146 "SeatsRoundModel" "taped" "I") (List.mem_of_getElem? (i := 1) rfl)) (fun _ h9 => h9) rfl (tyX12_ok 22 (by decide)) rfl rfl (Nat.le_of_ble_eq_true rfl) dX12_feed_58 (fun H locs hP hD hS => ?_)
    have hP : va_P (dC, dI) vwCl [(h0, .inr (12, [.int 0, .ref m1, .ref m2, .int 0, .ref m4, .ref m5, .ref m6, .ref m7, .ref m8, .int 0, .ref m10, .ref m11, .ref m12, .ref m13, .ref m14, .ref m15, .ref m16, .ref m17, .ref m18, .ref m19, .ref m20, .ref m21, .int 2, .ref m23, .ref m24, .ref m25, .ref m26, .ref m27, .ref m28, .int 0, .int 0, .ref m31, .int 0, .ref m33, .int 0, .ref m35, .int (-1), .ref m37, .int 0, .ref m39, .ref m40, .ref m41, .ref m42, .ref m43, .int 0, .int 0, .int 0, .int 0, .int 0, .int 0, .int 0, .int 0, .ref m52, .int 0, .ref m54, .int 0, .ref m56, .ref m57, .ref m58])), (m21, .inl (cy 0, 80, .inl g_15))] H := hP
    have hD : va_D A [(h0, .inr (12, [.int 0, .ref m1, .ref m2, .int 0, .ref m4, .ref m5, .ref m6, .ref m7, .ref m8, .int 0, .ref m10, .ref m11, .ref m12, .ref m13, .ref m14, .ref m15, .ref m16, .ref m17, .ref m18, .ref m19, .ref m20, .ref m21, .int 2, .ref m23, .ref m24, .ref m25, .ref m26, .ref m27, .ref m28, .int 0, .int 0, .ref m31, .int 0, .ref m33, .int 0, .ref m35, .int (-1), .ref m37, .int 0, .ref m39, .ref m40, .ref m41, .ref m42, .ref m43, .int 0, .int 0, .int 0, .int 0, .int 0, .int 0, .int 0, .int 0, .ref m52, .int 0, .ref m54, .int 0, .ref m56, .ref m57, .ref m58])), (m21, .inl (cy 0, 80, .inl g_15))] := hD
    refine lv_iinc (v := 2) (lv' := [(3, .int 2), (0, .ref h0), (1, .int 4), (2, .int p0)]) hx hb dX12_feed_61 hl (k := 0) rfl (by decide) (by decide) rfl (fun ls hl => ?_)
    refine lv_goto (tgt := 27) hx hb dX12_feed_64 (by decide) ?_
    refine lv_iload_n hx hb dX12_feed_27 rfl (lv_at hl 0 rfl) ?_
    change W _ _ _ _ _ _ _ _ _ _ _ _ _ _ _ (F0 m 28 ls [.int 2])
    refine lv_iload_n hx hb dX12_feed_28 rfl (lv_at hl 2 rfl) ?_
    refine lv_icmp_ge (tgt := 67) hx hb dX12_feed_29 (by decide) (fun c_17 => absurd c_17 (by decide)) (fun _ => ?_)
    refine lv_aload_n hx hb dX12_feed_32 rfl (lv_at hl 1 rfl) ?_
    refine va_get (D := (dC, dI)) (ci := 12) (v := .ref m21) (C := RX12) (T := TX12) (N := 59) hx hb hts (fun _ h9 => List.mem_cons_of_mem _ (List.mem_append_right _ h9)) hown hK hP 0 rfl rfl 21 (by decide) (hts (.fieldLink RX12 65 "SeatsRoundModel" "tape" "[I") (List.mem_of_getElem? (i := 2) rfl)) (fun _ h9 => h9) rfl dX12_feed_33 ?_
    refine lv_aload_n hx hb dX12_feed_36 rfl (lv_at hl 1 rfl) ?_
    refine va_get (D := (dC, dI)) (ci := 12) (v := .int 2) (C := RX12) (T := TX12) (N := 59) hx hb hts (fun _ h9 => List.mem_cons_of_mem _ (List.mem_append_right _ h9)) hown hK hP 0 rfl rfl 22 (by decide) (hts (.fieldLink RX12 146 "SeatsRoundModel" "taped" "I") (List.mem_of_getElem? (i := 1) rfl)) (fun _ h9 => h9) rfl dX12_feed_37 ?_
    refine lv_iload_n hx hb dX12_feed_40 rfl (lv_at hl 3 rfl) ?_
    refine lv_bipush (v := 8) hx hb dX12_feed_41 (by decide) ?_
    change W _ _ _ _ _ _ _ _ _ _ _ _ _ _ _ (F0 m 43 ls [.int 8, .int p0, .int 2, .ref m21])
    refine lv_iload_n hx hb dX12_feed_43 rfl (lv_at hl 0 rfl) ?_
    refine lv_imul hx hb dX12_feed_44 ?_
    refine lv_topi (fun f_18 ef_18 => ?_)
    obtain rfl : f_18 = 16 := ef_18.trans (by decide)
    refine lv_ishr hx hb dX12_feed_45 ?_
    refine lv_topi (fun f_19 ef_19 => ?_)
    refine lv_sipush (v := 255) hx hb dX12_feed_46 (by decide) ?_
    refine lv_iand hx hb dX12_feed_49 ?_
    refine lv_topi (fun f_20 ef_20 => ?_)
    refine va_iast hx hb hK hP hD hS 1 0 rfl rfl (vp_in_nI (n := 2) (N := 80) (by decide) (by decide)) dX12_feed_50 (fun H locs hP hD hS => ?_)
    generalize upd g_15 (Int32.toNatClampNeg 2) f_20 = g_21 at hP hD
    have hP : va_P (dC, dI) vwCl [(h0, .inr (12, [.int 0, .ref m1, .ref m2, .int 0, .ref m4, .ref m5, .ref m6, .ref m7, .ref m8, .int 0, .ref m10, .ref m11, .ref m12, .ref m13, .ref m14, .ref m15, .ref m16, .ref m17, .ref m18, .ref m19, .ref m20, .ref m21, .int 2, .ref m23, .ref m24, .ref m25, .ref m26, .ref m27, .ref m28, .int 0, .int 0, .ref m31, .int 0, .ref m33, .int 0, .ref m35, .int (-1), .ref m37, .int 0, .ref m39, .ref m40, .ref m41, .ref m42, .ref m43, .int 0, .int 0, .int 0, .int 0, .int 0, .int 0, .int 0, .int 0, .ref m52, .int 0, .ref m54, .int 0, .ref m56, .ref m57, .ref m58])), (m21, .inl (cy 0, 80, .inl g_21))] H := hP
    have hD : va_D A [(h0, .inr (12, [.int 0, .ref m1, .ref m2, .int 0, .ref m4, .ref m5, .ref m6, .ref m7, .ref m8, .int 0, .ref m10, .ref m11, .ref m12, .ref m13, .ref m14, .ref m15, .ref m16, .ref m17, .ref m18, .ref m19, .ref m20, .ref m21, .int 2, .ref m23, .ref m24, .ref m25, .ref m26, .ref m27, .ref m28, .int 0, .int 0, .ref m31, .int 0, .ref m33, .int 0, .ref m35, .int (-1), .ref m37, .int 0, .ref m39, .ref m40, .ref m41, .ref m42, .ref m43, .int 0, .int 0, .int 0, .int 0, .int 0, .int 0, .int 0, .int 0, .ref m52, .int 0, .ref m54, .int 0, .ref m56, .ref m57, .ref m58])), (m21, .inl (cy 0, 80, .inl g_21))] := hD
    refine lv_aload_n hx hb dX12_feed_51 rfl (lv_at hl 1 rfl) ?_
    refine lv_dup hx hb dX12_feed_52 rfl ?_
    change W _ _ _ _ _ _ _ _ _ _ _ _ _ _ _ (F0 m 53 ls [.ref h0, .ref h0])
    refine va_get (D := (dC, dI)) (ci := 12) (v := .int 2) (C := RX12) (T := TX12) (N := 59) hx hb hts (fun _ h9 => List.mem_cons_of_mem _ (List.mem_append_right _ h9)) hown hK hP 0 rfl rfl 22 (by decide) (hts (.fieldLink RX12 146 "SeatsRoundModel" "taped" "I") (List.mem_of_getElem? (i := 1) rfl)) (fun _ h9 => h9) rfl dX12_feed_53 ?_
    refine lv_iconst (v := 1) hx hb dX12_feed_56 (by decide) ?_
    refine lv_iadd hx hb dX12_feed_57 ?_
    refine lv_topi (fun f_22 ef_22 => ?_)
    obtain rfl : f_22 = 3 := ef_22.trans (by decide)
    refine va_put (D := (dC, dI)) (ci := 12) (v := .int 3) (C := RX12) (T := TX12) (N := 59) hx hb hts (fun _ h9 => List.mem_cons_of_mem _ (List.mem_append_right _ h9)) tyX12 tyX12_ok nmX12 hown hK hP hD hS 0 rfl rfl 22 (by decide) (hts (.fieldLink RX12 146 "SeatsRoundModel" "taped" "I") (List.mem_of_getElem? (i := 1) rfl)) (fun _ h9 => h9) rfl (tyX12_ok 22 (by decide)) rfl rfl (Nat.le_of_ble_eq_true rfl) dX12_feed_58 (fun H locs hP hD hS => ?_)
    have hP : va_P (dC, dI) vwCl [(h0, .inr (12, [.int 0, .ref m1, .ref m2, .int 0, .ref m4, .ref m5, .ref m6, .ref m7, .ref m8, .int 0, .ref m10, .ref m11, .ref m12, .ref m13, .ref m14, .ref m15, .ref m16, .ref m17, .ref m18, .ref m19, .ref m20, .ref m21, .int 3, .ref m23, .ref m24, .ref m25, .ref m26, .ref m27, .ref m28, .int 0, .int 0, .ref m31, .int 0, .ref m33, .int 0, .ref m35, .int (-1), .ref m37, .int 0, .ref m39, .ref m40, .ref m41, .ref m42, .ref m43, .int 0, .int 0, .int 0, .int 0, .int 0, .int 0, .int 0, .int 0, .ref m52, .int 0, .ref m54, .int 0, .ref m56, .ref m57, .ref m58])), (m21, .inl (cy 0, 80, .inl g_21))] H := hP
    have hD : va_D A [(h0, .inr (12, [.int 0, .ref m1, .ref m2, .int 0, .ref m4, .ref m5, .ref m6, .ref m7, .ref m8, .int 0, .ref m10, .ref m11, .ref m12, .ref m13, .ref m14, .ref m15, .ref m16, .ref m17, .ref m18, .ref m19, .ref m20, .ref m21, .int 3, .ref m23, .ref m24, .ref m25, .ref m26, .ref m27, .ref m28, .int 0, .int 0, .ref m31, .int 0, .ref m33, .int 0, .ref m35, .int (-1), .ref m37, .int 0, .ref m39, .ref m40, .ref m41, .ref m42, .ref m43, .int 0, .int 0, .int 0, .int 0, .int 0, .int 0, .int 0, .int 0, .ref m52, .int 0, .ref m54, .int 0, .ref m56, .ref m57, .ref m58])), (m21, .inl (cy 0, 80, .inl g_21))] := hD
    refine lv_iinc (v := 3) (lv' := [(3, .int 3), (0, .ref h0), (1, .int 4), (2, .int p0)]) hx hb dX12_feed_61 hl (k := 0) rfl (by decide) (by decide) rfl (fun ls hl => ?_)
    refine lv_goto (tgt := 27) hx hb dX12_feed_64 (by decide) ?_
    refine lv_iload_n hx hb dX12_feed_27 rfl (lv_at hl 0 rfl) ?_
    refine lv_iload_n hx hb dX12_feed_28 rfl (lv_at hl 2 rfl) ?_
    change W _ _ _ _ _ _ _ _ _ _ _ _ _ _ _ (F0 m 29 ls [.int 4, .int 3])
    refine lv_icmp_ge (tgt := 67) hx hb dX12_feed_29 (by decide) (fun c_23 => absurd c_23 (by decide)) (fun _ => ?_)
    refine lv_aload_n hx hb dX12_feed_32 rfl (lv_at hl 1 rfl) ?_
    refine va_get (D := (dC, dI)) (ci := 12) (v := .ref m21) (C := RX12) (T := TX12) (N := 59) hx hb hts (fun _ h9 => List.mem_cons_of_mem _ (List.mem_append_right _ h9)) hown hK hP 0 rfl rfl 21 (by decide) (hts (.fieldLink RX12 65 "SeatsRoundModel" "tape" "[I") (List.mem_of_getElem? (i := 2) rfl)) (fun _ h9 => h9) rfl dX12_feed_33 ?_
    refine lv_aload_n hx hb dX12_feed_36 rfl (lv_at hl 1 rfl) ?_
    refine va_get (D := (dC, dI)) (ci := 12) (v := .int 3) (C := RX12) (T := TX12) (N := 59) hx hb hts (fun _ h9 => List.mem_cons_of_mem _ (List.mem_append_right _ h9)) hown hK hP 0 rfl rfl 22 (by decide) (hts (.fieldLink RX12 146 "SeatsRoundModel" "taped" "I") (List.mem_of_getElem? (i := 1) rfl)) (fun _ h9 => h9) rfl dX12_feed_37 ?_
    refine lv_iload_n hx hb dX12_feed_40 rfl (lv_at hl 3 rfl) ?_
    refine lv_bipush (v := 8) hx hb dX12_feed_41 (by decide) ?_
    refine lv_iload_n hx hb dX12_feed_43 rfl (lv_at hl 0 rfl) ?_
    change W _ _ _ _ _ _ _ _ _ _ _ _ _ _ _ (F0 m 44 ls [.int 3, .int 8, .int p0, .int 3, .ref m21])
    refine lv_imul hx hb dX12_feed_44 ?_
    refine lv_topi (fun f_24 ef_24 => ?_)
    obtain rfl : f_24 = 24 := ef_24.trans (by decide)
    refine lv_ishr hx hb dX12_feed_45 ?_
    refine lv_topi (fun f_25 ef_25 => ?_)
    refine lv_sipush (v := 255) hx hb dX12_feed_46 (by decide) ?_
    refine lv_iand hx hb dX12_feed_49 ?_
    refine lv_topi (fun f_26 ef_26 => ?_)
    refine va_iast hx hb hK hP hD hS 1 0 rfl rfl (vp_in_nI (n := 3) (N := 80) (by decide) (by decide)) dX12_feed_50 (fun H locs hP hD hS => ?_)
    generalize upd g_21 (Int32.toNatClampNeg 3) f_26 = g_27 at hP hD
    have hP : va_P (dC, dI) vwCl [(h0, .inr (12, [.int 0, .ref m1, .ref m2, .int 0, .ref m4, .ref m5, .ref m6, .ref m7, .ref m8, .int 0, .ref m10, .ref m11, .ref m12, .ref m13, .ref m14, .ref m15, .ref m16, .ref m17, .ref m18, .ref m19, .ref m20, .ref m21, .int 3, .ref m23, .ref m24, .ref m25, .ref m26, .ref m27, .ref m28, .int 0, .int 0, .ref m31, .int 0, .ref m33, .int 0, .ref m35, .int (-1), .ref m37, .int 0, .ref m39, .ref m40, .ref m41, .ref m42, .ref m43, .int 0, .int 0, .int 0, .int 0, .int 0, .int 0, .int 0, .int 0, .ref m52, .int 0, .ref m54, .int 0, .ref m56, .ref m57, .ref m58])), (m21, .inl (cy 0, 80, .inl g_27))] H := hP
    have hD : va_D A [(h0, .inr (12, [.int 0, .ref m1, .ref m2, .int 0, .ref m4, .ref m5, .ref m6, .ref m7, .ref m8, .int 0, .ref m10, .ref m11, .ref m12, .ref m13, .ref m14, .ref m15, .ref m16, .ref m17, .ref m18, .ref m19, .ref m20, .ref m21, .int 3, .ref m23, .ref m24, .ref m25, .ref m26, .ref m27, .ref m28, .int 0, .int 0, .ref m31, .int 0, .ref m33, .int 0, .ref m35, .int (-1), .ref m37, .int 0, .ref m39, .ref m40, .ref m41, .ref m42, .ref m43, .int 0, .int 0, .int 0, .int 0, .int 0, .int 0, .int 0, .int 0, .ref m52, .int 0, .ref m54, .int 0, .ref m56, .ref m57, .ref m58])), (m21, .inl (cy 0, 80, .inl g_27))] := hD
    refine lv_aload_n hx hb dX12_feed_51 rfl (lv_at hl 1 rfl) ?_
    refine lv_dup hx hb dX12_feed_52 rfl ?_
    refine va_get (D := (dC, dI)) (ci := 12) (v := .int 3) (C := RX12) (T := TX12) (N := 59) hx hb hts (fun _ h9 => List.mem_cons_of_mem _ (List.mem_append_right _ h9)) hown hK hP 0 rfl rfl 22 (by decide) (hts (.fieldLink RX12 146 "SeatsRoundModel" "taped" "I") (List.mem_of_getElem? (i := 1) rfl)) (fun _ h9 => h9) rfl dX12_feed_53 ?_
    change W _ _ _ _ _ _ _ _ _ _ _ _ _ _ _ (F0 m 56 ls [.int 3, .ref h0])
    refine lv_iconst (v := 1) hx hb dX12_feed_56 (by decide) ?_
    refine lv_iadd hx hb dX12_feed_57 ?_
    refine lv_topi (fun f_28 ef_28 => ?_)
    obtain rfl : f_28 = 4 := ef_28.trans (by decide)
    refine va_put (D := (dC, dI)) (ci := 12) (v := .int 4) (C := RX12) (T := TX12) (N := 59) hx hb hts (fun _ h9 => List.mem_cons_of_mem _ (List.mem_append_right _ h9)) tyX12 tyX12_ok nmX12 hown hK hP hD hS 0 rfl rfl 22 (by decide) (hts (.fieldLink RX12 146 "SeatsRoundModel" "taped" "I") (List.mem_of_getElem? (i := 1) rfl)) (fun _ h9 => h9) rfl (tyX12_ok 22 (by decide)) rfl rfl (Nat.le_of_ble_eq_true rfl) dX12_feed_58 (fun H locs hP hD hS => ?_)
    have hP : va_P (dC, dI) vwCl [(h0, .inr (12, [.int 0, .ref m1, .ref m2, .int 0, .ref m4, .ref m5, .ref m6, .ref m7, .ref m8, .int 0, .ref m10, .ref m11, .ref m12, .ref m13, .ref m14, .ref m15, .ref m16, .ref m17, .ref m18, .ref m19, .ref m20, .ref m21, .int 4, .ref m23, .ref m24, .ref m25, .ref m26, .ref m27, .ref m28, .int 0, .int 0, .ref m31, .int 0, .ref m33, .int 0, .ref m35, .int (-1), .ref m37, .int 0, .ref m39, .ref m40, .ref m41, .ref m42, .ref m43, .int 0, .int 0, .int 0, .int 0, .int 0, .int 0, .int 0, .int 0, .ref m52, .int 0, .ref m54, .int 0, .ref m56, .ref m57, .ref m58])), (m21, .inl (cy 0, 80, .inl g_27))] H := hP
    have hD : va_D A [(h0, .inr (12, [.int 0, .ref m1, .ref m2, .int 0, .ref m4, .ref m5, .ref m6, .ref m7, .ref m8, .int 0, .ref m10, .ref m11, .ref m12, .ref m13, .ref m14, .ref m15, .ref m16, .ref m17, .ref m18, .ref m19, .ref m20, .ref m21, .int 4, .ref m23, .ref m24, .ref m25, .ref m26, .ref m27, .ref m28, .int 0, .int 0, .ref m31, .int 0, .ref m33, .int 0, .ref m35, .int (-1), .ref m37, .int 0, .ref m39, .ref m40, .ref m41, .ref m42, .ref m43, .int 0, .int 0, .int 0, .int 0, .int 0, .int 0, .int 0, .int 0, .ref m52, .int 0, .ref m54, .int 0, .ref m56, .ref m57, .ref m58])), (m21, .inl (cy 0, 80, .inl g_27))] := hD
    refine lv_iinc (v := 4) (lv' := [(3, .int 4), (0, .ref h0), (1, .int 4), (2, .int p0)]) hx hb dX12_feed_61 hl (k := 0) rfl (by decide) (by decide) rfl (fun ls hl => ?_)
    refine lv_goto (tgt := 27) hx hb dX12_feed_64 (by decide) ?_
    refine lv_iload_n hx hb dX12_feed_27 rfl (lv_at hl 0 rfl) ?_
    refine lv_iload_n hx hb dX12_feed_28 rfl (lv_at hl 2 rfl) ?_
    refine lv_icmp_ge (tgt := 67) hx hb dX12_feed_29 (by decide) (fun _ => ?_) (fun c_29 => absurd c_29 (by decide))
    change W _ _ _ _ _ _ _ _ _ _ _ _ _ _ _ (F0 m 67 ls [])
    refine lv_aload_n hx hb dX12_feed_67 rfl (lv_at hl 1 rfl) ?_
    refine va_get (D := (dC, dI)) (ci := 12) (v := .int 4) (C := RX12) (T := TX12) (N := 59) hx hb hts (fun _ h9 => List.mem_cons_of_mem _ (List.mem_append_right _ h9)) hown hK hP 0 rfl rfl 22 (by decide) (hts (.fieldLink RX12 146 "SeatsRoundModel" "taped" "I") (List.mem_of_getElem? (i := 1) rfl)) (fun _ h9 => h9) rfl dX12_feed_68 ?_
    exact W.iret (v := 4) hx hb hr (fun t ht hW => ⟨⟨4, (), rfl, (by first | rfl | (exfalso; omega)), trivial⟩, hS.F ht⟩) hS.2.2 dX12_feed_71
  · have ic_1 : ¬ ((1 : Int) ≤ (4 : Int) ∧ (4 : Int) ≤ (4 : Int)) := c_1
    exact absurd True.intro (by omega)
set_option maxHeartbeats 4000000 in
set_option maxRecDepth 100000 in
theorem c_M_name (l : Launch) (dC : Nat → ClassId) (dI : Nat → Nat → Nat) (cy : Nat → ClassId) (h0 : Nat) (m1 : Nat) (m2 : Nat) (m4 : Nat) (m5 : Nat) (m6 : Nat) (m7 : Nat) (m8 : Nat) (m10 : Nat) (m11 : Nat) (m12 : Nat) (m13 : Nat) (m14 : Nat) (m15 : Nat) (m16 : Nat) (m17 : Nat) (m18 : Nat) (m19 : Nat) (m20 : Nat) (m21 : Nat) (m23 : Nat) (m24 : Nat) (m25 : Nat) (m26 : Nat) (m27 : Nat) (m28 : Nat) (m31 : Nat) (m33 : Nat) (m35 : Nat) (m37 : Nat) (m39 : Nat) (m40 : Nat) (m41 : Nat) (m42 : Nat) (m43 : Nat) (m52 : Nat) (m54 : Nat) (m56 : Nat) (m57 : Nat) (m58 : Nat) (sz : Nat)  : Met l yX12_name wsX12_name ({ frames := 2, cells := 0, slots := 0, locals := 45 }) (va_Pc [.ref h0] (wPre (dC, dI) cy [(h0, .inr (12, [.int 0, .ref m1, .ref m2, .int 0, .ref m4, .ref m5, .ref m6, .ref m7, .ref m8, .int 0, .ref m10, .ref m11, .ref m12, .ref m13, .ref m14, .ref m15, .ref m16, .ref m17, .ref m18, .ref m19, .ref m20, .ref m21, .int 0, .ref m23, .ref m24, .ref m25, .ref m26, .ref m27, .ref m28, .int 0, .int 0, .ref m31, .int 0, .ref m33, .int 0, .ref m35, .int (-1), .ref m37, .int 0, .ref m39, .ref m40, .ref m41, .ref m42, .ref m43, .int 0, .int 0, .int 0, .int 0, .int 0, .int 0, .int 0, .int 0, .ref m52, .int 0, .ref m54, .int 0, .ref m56, .ref m57, .ref m58]))] sz)) (va_Qi (fun (r : Int32) (u : Unit) => r = -1) (fun (u : Unit) t => True) (va_A [(h0, .inr (12, [.int 0, .ref m1, .ref m2, .int 0, .ref m4, .ref m5, .ref m6, .ref m7, .ref m8, .int 0, .ref m10, .ref m11, .ref m12, .ref m13, .ref m14, .ref m15, .ref m16, .ref m17, .ref m18, .ref m19, .ref m20, .ref m21, .int 0, .ref m23, .ref m24, .ref m25, .ref m26, .ref m27, .ref m28, .int 0, .int 0, .ref m31, .int 0, .ref m33, .int 0, .ref m35, .int (-1), .ref m37, .int 0, .ref m39, .ref m40, .ref m41, .ref m42, .ref m43, .int 0, .int 0, .int 0, .int 0, .int 0, .int 0, .int 0, .int 0, .ref m52, .int 0, .ref m54, .int 0, .ref m56, .ref m57, .ref m58]))] sz)) 0 0 (va_A [(h0, .inr (12, [.int 0, .ref m1, .ref m2, .int 0, .ref m4, .ref m5, .ref m6, .ref m7, .ref m8, .int 0, .ref m10, .ref m11, .ref m12, .ref m13, .ref m14, .ref m15, .ref m16, .ref m17, .ref m18, .ref m19, .ref m20, .ref m21, .int 0, .ref m23, .ref m24, .ref m25, .ref m26, .ref m27, .ref m28, .int 0, .int 0, .ref m31, .int 0, .ref m33, .int 0, .ref m35, .int (-1), .ref m37, .int 0, .ref m39, .ref m40, .ref m41, .ref m42, .ref m43, .int 0, .int 0, .int 0, .int 0, .int 0, .int 0, .int 0, .int 0, .ref m52, .int 0, .ref m54, .int 0, .ref m56, .ref m57, .ref m58]))] sz) := by
  refine Met.ofW (cc := cX12_name) (maxL := 2) (ret := (some .int)) (by decide) rfl ?_
  intro p e s m args below meth c s₁ B hml hv
  obtain ⟨rfl, hsz, hP, hK, hD0, hN⟩ := hv
  have hx := B.exec
  have hb := B.bytes
  have hr := B.returns
  have hts := atoms_spec (ws := wsX12_name) B.pre
  have hown : s.vm.findClass RX12 = some m.cls := findClass_of_methodNamed B.named
  have hlocks := B.notSynchronized
  subst hsz
  have hD := hD0.self (sz := s.heap.size)
  generalize hAe : va_A [(h0, .inr (12, [.int 0, .ref m1, .ref m2, .int 0, .ref m4, .ref m5, .ref m6, .ref m7, .ref m8, .int 0, .ref m10, .ref m11, .ref m12, .ref m13, .ref m14, .ref m15, .ref m16, .ref m17, .ref m18, .ref m19, .ref m20, .ref m21, .int 0, .ref m23, .ref m24, .ref m25, .ref m26, .ref m27, .ref m28, .int 0, .int 0, .ref m31, .int 0, .ref m33, .int 0, .ref m35, .int (-1), .ref m37, .int 0, .ref m39, .ref m40, .ref m41, .ref m42, .ref m43, .int 0, .int 0, .int 0, .int 0, .int 0, .int 0, .int 0, .int 0, .ref m52, .int 0, .ref m54, .int 0, .ref m56, .ref m57, .ref m58]))] s.heap.size = A at hD ⊢
  have hA : ∀ q : Nat, s.heap.size ≤ q → A q := fun q h => by rw [← hAe]; exact Or.inr h
  have hS : va_S A s.heap s.heap [] := va_S.rf
  have hl := lv_entry ([.ref h0]) (n := 2) (Nat.le_of_ble_eq_true rfl)
  rw [lg_entry_eq]
  generalize (lg_sl ([.ref h0]) ++ List.replicate (2 - (lg_sl ([.ref h0])).length) Slot.unset).toArray = ls at hl ⊢
  have hl : lv_has ls 2 [(0, .ref h0)] := hl
  refine lv_aload_n hx hb dX12_name_0 rfl (lv_at hl 0 rfl) ?_
  refine va_get (D := (dC, dI)) (ci := 12) (v := .int 0) (C := RX12) (T := TX12) (N := 59) hx hb hts (fun _ h9 => List.mem_cons_of_mem _ (List.mem_append_right _ h9)) hown hK hP 0 rfl rfl 22 (by decide) (hts (.fieldLink RX12 146 "SeatsRoundModel" "taped" "I") (List.mem_of_getElem? (i := 1) rfl)) (fun _ h9 => h9) rfl dX12_name_1 ?_
  refine lv_iconst (v := 1) hx hb dX12_name_4 (by decide) ?_
  refine lv_bipush (v := 6) hx hb dX12_name_5 (by decide) ?_
  have hPc := hP.sub (ws' := []) [] rfl
  have hDc := hD.sub (ws' := []) [] (by decide) rfl
  refine vz_callSi (va_runS (As := [.int 0, .int 1, .int 6]) (rest := []) ⟨hx, hb, hml, hown, hts⟩ (c_M_in l dC dI cy 0 1 6 s.heap.size) (va_cwS 3 hts gX12_name_X12_in rfl rfl rfl (by decide +kernel) ⟨Nat.le_of_ble_eq_true rfl, Nat.le_of_ble_eq_true rfl⟩) (wp_S hK hN hPc hDc) rfl rfl hl.1 rfl (lv_room (Nat.le_of_ble_eq_true rfl)) dX12_name_7 ⟨Nat.le_of_ble_eq_true rfl, Nat.le_of_ble_eq_true rfl⟩) (fun r_1 hw_1 => ?_)
  rcases hw_1 with ⟨c_1, hw_1⟩ | ⟨c_1, hw_1⟩ <;> subst hw_1
  · have ic_1 : (1 : Int) ≤ (0 : Int) ∧ (0 : Int) ≤ (6 : Int) := c_1
    exact absurd True.intro (by omega)
  · have ic_1 : ¬ ((1 : Int) ≤ (0 : Int) ∧ (0 : Int) ≤ (6 : Int)) := c_1
    refine lv_if_ne (tgt := 15) hx hb dX12_name_10 (by decide) (fun c_2 => absurd c_2 (by decide)) (fun _ => ?_)
    refine lv_iconst (v := (-1)) hx hb dX12_name_13 (by decide) ?_
    exact W.iret (v := (-1)) hx hb hr (fun t ht hW => ⟨⟨(-1), (), rfl, (by first | rfl | (exfalso; omega)), trivial⟩, hS.F ht⟩) hS.2.2 dX12_name_14
set_option maxHeartbeats 4000000 in
set_option maxRecDepth 100000 in
theorem c_M_number (l : Launch) (dC : Nat → ClassId) (dI : Nat → Nat → Nat) (cy : Nat → ClassId) (h0 : Nat) (m1 : Nat) (m2 : Nat) (m4 : Nat) (m5 : Nat) (m6 : Nat) (m7 : Nat) (m8 : Nat) (m10 : Nat) (m11 : Nat) (m12 : Nat) (m13 : Nat) (m14 : Nat) (m15 : Nat) (m16 : Nat) (m17 : Nat) (m18 : Nat) (m19 : Nat) (m20 : Nat) (m21 : Nat) (m23 : Nat) (m24 : Nat) (m25 : Nat) (m26 : Nat) (m27 : Nat) (m28 : Nat) (m31 : Nat) (m33 : Nat) (m35 : Nat) (m37 : Nat) (m39 : Nat) (m40 : Nat) (m41 : Nat) (m42 : Nat) (m43 : Nat) (m52 : Nat) (m54 : Nat) (m56 : Nat) (m57 : Nat) (m58 : Nat) (p0 : Int32) (p1 : Int32) (sz : Nat)  : Met l yX12_number wsX12_number ({ frames := 3, cells := 0, slots := 0, locals := 66 }) (va_Pc [.ref h0, .int p0, .int p1] (wPre (dC, dI) cy [(h0, .inr (12, [.int 0, .ref m1, .ref m2, .int 0, .ref m4, .ref m5, .ref m6, .ref m7, .ref m8, .int 0, .ref m10, .ref m11, .ref m12, .ref m13, .ref m14, .ref m15, .ref m16, .ref m17, .ref m18, .ref m19, .ref m20, .ref m21, .int 0, .ref m23, .ref m24, .ref m25, .ref m26, .ref m27, .ref m28, .int 0, .int 0, .ref m31, .int 0, .ref m33, .int 0, .ref m35, .int (-1), .ref m37, .int 0, .ref m39, .ref m40, .ref m41, .ref m42, .ref m43, .int 0, .int 0, .int 0, .int 0, .int 0, .int 0, .int 0, .int 0, .ref m52, .int 0, .ref m54, .int 0, .ref m56, .ref m57, .ref m58]))] sz)) (va_Qi (fun (r : Int32) (u : Unit) => r = -1) (fun (u : Unit) t => True) (va_A [(h0, .inr (12, [.int 0, .ref m1, .ref m2, .int 0, .ref m4, .ref m5, .ref m6, .ref m7, .ref m8, .int 0, .ref m10, .ref m11, .ref m12, .ref m13, .ref m14, .ref m15, .ref m16, .ref m17, .ref m18, .ref m19, .ref m20, .ref m21, .int 0, .ref m23, .ref m24, .ref m25, .ref m26, .ref m27, .ref m28, .int 0, .int 0, .ref m31, .int 0, .ref m33, .int 0, .ref m35, .int (-1), .ref m37, .int 0, .ref m39, .ref m40, .ref m41, .ref m42, .ref m43, .int 0, .int 0, .int 0, .int 0, .int 0, .int 0, .int 0, .int 0, .ref m52, .int 0, .ref m54, .int 0, .ref m56, .ref m57, .ref m58]))] sz)) 0 0 (va_A [(h0, .inr (12, [.int 0, .ref m1, .ref m2, .int 0, .ref m4, .ref m5, .ref m6, .ref m7, .ref m8, .int 0, .ref m10, .ref m11, .ref m12, .ref m13, .ref m14, .ref m15, .ref m16, .ref m17, .ref m18, .ref m19, .ref m20, .ref m21, .int 0, .ref m23, .ref m24, .ref m25, .ref m26, .ref m27, .ref m28, .int 0, .int 0, .ref m31, .int 0, .ref m33, .int 0, .ref m35, .int (-1), .ref m37, .int 0, .ref m39, .ref m40, .ref m41, .ref m42, .ref m43, .int 0, .int 0, .int 0, .int 0, .int 0, .int 0, .int 0, .int 0, .ref m52, .int 0, .ref m54, .int 0, .ref m56, .ref m57, .ref m58]))] sz) := by
  refine Met.ofW (cc := cX12_number) (maxL := 3) (ret := (some .int)) (by decide) rfl ?_
  intro p e s m args below meth c s₁ B hml hv
  obtain ⟨rfl, hsz, hP, hK, hD0, hN⟩ := hv
  have hx := B.exec
  have hb := B.bytes
  have hr := B.returns
  have hts := atoms_spec (ws := wsX12_number) B.pre
  have hown : s.vm.findClass RX12 = some m.cls := findClass_of_methodNamed B.named
  have hlocks := B.notSynchronized
  subst hsz
  have hD := hD0.self (sz := s.heap.size)
  generalize hAe : va_A [(h0, .inr (12, [.int 0, .ref m1, .ref m2, .int 0, .ref m4, .ref m5, .ref m6, .ref m7, .ref m8, .int 0, .ref m10, .ref m11, .ref m12, .ref m13, .ref m14, .ref m15, .ref m16, .ref m17, .ref m18, .ref m19, .ref m20, .ref m21, .int 0, .ref m23, .ref m24, .ref m25, .ref m26, .ref m27, .ref m28, .int 0, .int 0, .ref m31, .int 0, .ref m33, .int 0, .ref m35, .int (-1), .ref m37, .int 0, .ref m39, .ref m40, .ref m41, .ref m42, .ref m43, .int 0, .int 0, .int 0, .int 0, .int 0, .int 0, .int 0, .int 0, .ref m52, .int 0, .ref m54, .int 0, .ref m56, .ref m57, .ref m58]))] s.heap.size = A at hD ⊢
  have hA : ∀ q : Nat, s.heap.size ≤ q → A q := fun q h => by rw [← hAe]; exact Or.inr h
  have hS : va_S A s.heap s.heap [] := va_S.rf
  have hl := lv_entry ([.ref h0, .int p0, .int p1]) (n := 3) (Nat.le_of_ble_eq_true rfl)
  rw [lg_entry_eq]
  generalize (lg_sl ([.ref h0, .int p0, .int p1]) ++ List.replicate (3 - (lg_sl ([.ref h0, .int p0, .int p1])).length) Slot.unset).toArray = ls at hl ⊢
  have hl : lv_has ls 3 [(0, .ref h0), (1, .int p0), (2, .int p1)] := hl
  refine lv_aload_n hx hb dX12_number_0 rfl (lv_at hl 0 rfl) ?_
  refine lv_iload_n hx hb dX12_number_1 rfl (lv_at hl 1 rfl) ?_
  have hPc := hP.sub (ws' := [(h0, .inr (12, [.int 0, .ref m1, .ref m2, .int 0, .ref m4, .ref m5, .ref m6, .ref m7, .ref m8, .int 0, .ref m10, .ref m11, .ref m12, .ref m13, .ref m14, .ref m15, .ref m16, .ref m17, .ref m18, .ref m19, .ref m20, .ref m21, .int 0, .ref m23, .ref m24, .ref m25, .ref m26, .ref m27, .ref m28, .int 0, .int 0, .ref m31, .int 0, .ref m33, .int 0, .ref m35, .int (-1), .ref m37, .int 0, .ref m39, .ref m40, .ref m41, .ref m42, .ref m43, .int 0, .int 0, .int 0, .int 0, .int 0, .int 0, .int 0, .int 0, .ref m52, .int 0, .ref m54, .int 0, .ref m56, .ref m57, .ref m58]))]) [0] rfl
  have hDc := hD.sub (ws' := [(h0, .inr (12, [.int 0, .ref m1, .ref m2, .int 0, .ref m4, .ref m5, .ref m6, .ref m7, .ref m8, .int 0, .ref m10, .ref m11, .ref m12, .ref m13, .ref m14, .ref m15, .ref m16, .ref m17, .ref m18, .ref m19, .ref m20, .ref m21, .int 0, .ref m23, .ref m24, .ref m25, .ref m26, .ref m27, .ref m28, .int 0, .int 0, .ref m31, .int 0, .ref m33, .int 0, .ref m35, .int (-1), .ref m37, .int 0, .ref m39, .ref m40, .ref m41, .ref m42, .ref m43, .int 0, .int 0, .int 0, .int 0, .int 0, .int 0, .int 0, .int 0, .ref m52, .int 0, .ref m54, .int 0, .ref m56, .ref m57, .ref m58]))]) [0] (by decide) rfl
  refine vz_callSi (va_runV (As := [.int p0]) (rest := []) ⟨hx, hb, hml, hown, hts⟩ (c_M_isName l dC dI cy h0 m1 m2 m4 m5 m6 m7 m8 m10 m11 m12 m13 m14 m15 m16 m17 m18 m19 m20 m21 m23 m24 m25 m26 m27 m28 m31 m33 m35 m37 m39 m40 m41 m42 m43 m52 m54 m56 m57 m58 p0 s.heap.size) (cwV 1 hts gX12_number_X12_isName rfl rfl rfl (by decide +kernel) ⟨Nat.le_of_ble_eq_true rfl, Nat.le_of_ble_eq_true rfl⟩) (wp_V hK hN hPc hDc (va_recv hK hPc (ci := 12) (q0 := 0) rfl rfl)) rfl rfl hl.1 rfl (lv_room (Nat.le_of_ble_eq_true rfl)) dX12_number_2 ⟨Nat.le_of_ble_eq_true rfl, Nat.le_of_ble_eq_true rfl⟩) (fun r_1 hw_1 => ?_)
  obtain rfl : r_1 = 0 := hw_1
  refine lv_if_eq (tgt := 17) hx hb dX12_number_5 (by decide) (fun _ => ?_) (fun c_2 => absurd c_2 (by decide))
  refine lv_iconst (v := (-1)) hx hb dX12_number_17 (by decide) ?_
  change W _ _ _ _ _ _ _ _ _ _ _ _ _ _ _ (F0 m 18 ls [.int (-1)])
  exact W.iret (v := (-1)) hx hb hr (fun t ht hW => ⟨⟨(-1), (), rfl, (by first | rfl | (exfalso; omega)), trivial⟩, hS.F ht⟩) hS.2.2 dX12_number_18
set_option maxHeartbeats 4000000 in
set_option maxRecDepth 100000 in
theorem c_M_keeper (l : Launch) (dC : Nat → ClassId) (dI : Nat → Nat → Nat) (cy : Nat → ClassId) (h0 : Nat) (m1 : Nat) (m2 : Nat) (m4 : Nat) (m5 : Nat) (m6 : Nat) (m7 : Nat) (m8 : Nat) (m10 : Nat) (m11 : Nat) (m12 : Nat) (m13 : Nat) (m14 : Nat) (m15 : Nat) (m16 : Nat) (m17 : Nat) (m18 : Nat) (m19 : Nat) (m20 : Nat) (m21 : Nat) (m23 : Nat) (m24 : Nat) (m25 : Nat) (m26 : Nat) (m27 : Nat) (m28 : Nat) (m31 : Nat) (m33 : Nat) (m35 : Nat) (m37 : Nat) (m39 : Nat) (m40 : Nat) (m41 : Nat) (m42 : Nat) (m43 : Nat) (m52 : Nat) (m54 : Nat) (m56 : Nat) (m57 : Nat) (m58 : Nat) (p0 : Int32) (p1 : Int32) (sz : Nat)  : Met l yX12_keeper wsX12_keeper ({ frames := 2, cells := 0, slots := 0, locals := 45 }) (va_Pc [.ref h0, .int p0, .int p1] (wPre (dC, dI) cy [(h0, .inr (12, [.int 0, .ref m1, .ref m2, .int 0, .ref m4, .ref m5, .ref m6, .ref m7, .ref m8, .int 0, .ref m10, .ref m11, .ref m12, .ref m13, .ref m14, .ref m15, .ref m16, .ref m17, .ref m18, .ref m19, .ref m20, .ref m21, .int 0, .ref m23, .ref m24, .ref m25, .ref m26, .ref m27, .ref m28, .int 0, .int 0, .ref m31, .int 0, .ref m33, .int 0, .ref m35, .int (-1), .ref m37, .int 0, .ref m39, .ref m40, .ref m41, .ref m42, .ref m43, .int 0, .int 0, .int 0, .int 0, .int 0, .int 0, .int 0, .int 0, .ref m52, .int 0, .ref m54, .int 0, .ref m56, .ref m57, .ref m58])), (m4, .inl (cy 0, 12, .inl (fun _ => 0))), (m5, .inl (cy 0, 12, .inl (fun _ => 0)))] sz)) (va_Qi (fun (r : Int32) (u : Unit) => r = sp_keeper p0 p1) (fun (u : Unit) t => True) (va_A [(h0, .inr (12, [.int 0, .ref m1, .ref m2, .int 0, .ref m4, .ref m5, .ref m6, .ref m7, .ref m8, .int 0, .ref m10, .ref m11, .ref m12, .ref m13, .ref m14, .ref m15, .ref m16, .ref m17, .ref m18, .ref m19, .ref m20, .ref m21, .int 0, .ref m23, .ref m24, .ref m25, .ref m26, .ref m27, .ref m28, .int 0, .int 0, .ref m31, .int 0, .ref m33, .int 0, .ref m35, .int (-1), .ref m37, .int 0, .ref m39, .ref m40, .ref m41, .ref m42, .ref m43, .int 0, .int 0, .int 0, .int 0, .int 0, .int 0, .int 0, .int 0, .ref m52, .int 0, .ref m54, .int 0, .ref m56, .ref m57, .ref m58])), (m4, .inl (cy 0, 12, .inl (fun _ => 0))), (m5, .inl (cy 0, 12, .inl (fun _ => 0)))] sz)) 0 0 (va_A [(h0, .inr (12, [.int 0, .ref m1, .ref m2, .int 0, .ref m4, .ref m5, .ref m6, .ref m7, .ref m8, .int 0, .ref m10, .ref m11, .ref m12, .ref m13, .ref m14, .ref m15, .ref m16, .ref m17, .ref m18, .ref m19, .ref m20, .ref m21, .int 0, .ref m23, .ref m24, .ref m25, .ref m26, .ref m27, .ref m28, .int 0, .int 0, .ref m31, .int 0, .ref m33, .int 0, .ref m35, .int (-1), .ref m37, .int 0, .ref m39, .ref m40, .ref m41, .ref m42, .ref m43, .int 0, .int 0, .int 0, .int 0, .int 0, .int 0, .int 0, .int 0, .ref m52, .int 0, .ref m54, .int 0, .ref m56, .ref m57, .ref m58])), (m4, .inl (cy 0, 12, .inl (fun _ => 0))), (m5, .inl (cy 0, 12, .inl (fun _ => 0)))] sz) := by
  refine Met.ofW (cc := cX12_keeper) (maxL := 3) (ret := (some .int)) (by decide) rfl ?_
  intro p e s m args below meth c s₁ B hml hv
  obtain ⟨rfl, hsz, hP, hK, hD0, hN⟩ := hv
  have hx := B.exec
  have hb := B.bytes
  have hr := B.returns
  have hts := atoms_spec (ws := wsX12_keeper) B.pre
  have hown : s.vm.findClass RX12 = some m.cls := findClass_of_methodNamed B.named
  have hlocks := B.notSynchronized
  subst hsz
  have hD := hD0.self (sz := s.heap.size)
  generalize hAe : va_A [(h0, .inr (12, [.int 0, .ref m1, .ref m2, .int 0, .ref m4, .ref m5, .ref m6, .ref m7, .ref m8, .int 0, .ref m10, .ref m11, .ref m12, .ref m13, .ref m14, .ref m15, .ref m16, .ref m17, .ref m18, .ref m19, .ref m20, .ref m21, .int 0, .ref m23, .ref m24, .ref m25, .ref m26, .ref m27, .ref m28, .int 0, .int 0, .ref m31, .int 0, .ref m33, .int 0, .ref m35, .int (-1), .ref m37, .int 0, .ref m39, .ref m40, .ref m41, .ref m42, .ref m43, .int 0, .int 0, .int 0, .int 0, .int 0, .int 0, .int 0, .int 0, .ref m52, .int 0, .ref m54, .int 0, .ref m56, .ref m57, .ref m58])), (m4, .inl (cy 0, 12, .inl (fun _ => 0))), (m5, .inl (cy 0, 12, .inl (fun _ => 0)))] s.heap.size = A at hD ⊢
  have hA : ∀ q : Nat, s.heap.size ≤ q → A q := fun q h => by rw [← hAe]; exact Or.inr h
  have hS : va_S A s.heap s.heap [] := va_S.rf
  have hl := lv_entry ([.ref h0, .int p0, .int p1]) (n := 3) (Nat.le_of_ble_eq_true rfl)
  rw [lg_entry_eq]
  generalize (lg_sl ([.ref h0, .int p0, .int p1]) ++ List.replicate (3 - (lg_sl ([.ref h0, .int p0, .int p1])).length) Slot.unset).toArray = ls at hl ⊢
  have hl : lv_has ls 3 [(0, .ref h0), (1, .int p0), (2, .int p1)] := hl
  refine lv_iload_n hx hb dX12_keeper_0 rfl (lv_at hl 1 rfl) ?_
  refine lv_iconst (v := 0) hx hb dX12_keeper_1 (by decide) ?_
  change W _ _ _ _ _ _ _ _ _ _ _ _ _ _ _ (F0 m 2 ls [.int 0, .int p0])
  refine lv_iconst (v := 5) hx hb dX12_keeper_2 (by decide) ?_
  have hPc := hP.sub (ws' := []) [] rfl
  have hDc := hD.sub (ws' := []) [] (by decide) rfl
  refine vz_callSi (va_runS (As := [.int p0, .int 0, .int 5]) (rest := []) ⟨hx, hb, hml, hown, hts⟩ (c_M_in l dC dI cy p0 0 5 s.heap.size) (va_cwS 3 hts gX12_keeper_X12_in rfl rfl rfl (by decide +kernel) ⟨Nat.le_of_ble_eq_true rfl, Nat.le_of_ble_eq_true rfl⟩) (wp_S hK hN hPc hDc) rfl rfl hl.1 rfl (lv_room (Nat.le_of_ble_eq_true rfl)) dX12_keeper_3 ⟨Nat.le_of_ble_eq_true rfl, Nat.le_of_ble_eq_true rfl⟩) (fun r_1 hw_1 => ?_)
  rcases hw_1 with ⟨c_1, hw_1⟩ | ⟨c_1, hw_1⟩ <;> subst hw_1
  · have ic_1 : (0 : Int) ≤ p0.toInt ∧ p0.toInt ≤ (5 : Int) := c_1
    refine lv_if_eq (tgt := 19) hx hb dX12_keeper_6 (by decide) (fun c_2 => absurd c_2 (by decide)) (fun _ => ?_)
    refine lv_iload_n hx hb dX12_keeper_9 rfl (lv_at hl 2 rfl) ?_
    refine lv_iconst (v := 1) hx hb dX12_keeper_10 (by decide) ?_
    refine lv_bipush (v := 8) hx hb dX12_keeper_11 (by decide) ?_
    have hPc := hP.sub (ws' := []) [] rfl
    have hDc := hD.sub (ws' := []) [] (by decide) rfl
    refine vz_callSi (va_runS (As := [.int p1, .int 1, .int 8]) (rest := []) ⟨hx, hb, hml, hown, hts⟩ (c_M_in l dC dI cy p1 1 8 s.heap.size) (va_cwS 3 hts gX12_keeper_X12_in rfl rfl rfl (by decide +kernel) ⟨Nat.le_of_ble_eq_true rfl, Nat.le_of_ble_eq_true rfl⟩) (wp_S hK hN hPc hDc) rfl rfl hl.1 rfl (lv_room (Nat.le_of_ble_eq_true rfl)) dX12_keeper_13 ⟨Nat.le_of_ble_eq_true rfl, Nat.le_of_ble_eq_true rfl⟩) (fun r_3 hw_3 => ?_)
    rcases hw_3 with ⟨c_3, hw_3⟩ | ⟨c_3, hw_3⟩ <;> subst hw_3
    · have ic_3 : (1 : Int) ≤ p1.toInt ∧ p1.toInt ≤ (8 : Int) := c_3
      refine lv_if_ne (tgt := 21) hx hb dX12_keeper_16 (by decide) (fun _ => ?_) (fun c_4 => absurd c_4 (by decide))
      refine lv_aload_n hx hb dX12_keeper_21 rfl (lv_at hl 0 rfl) ?_
      refine va_get (D := (dC, dI)) (ci := 12) (v := .int 0) (C := RX12) (T := TX12) (N := 59) hx hb hts (fun _ h9 => List.mem_cons_of_mem _ (List.mem_append_right _ h9)) hown hK hP 0 rfl rfl 3 (by decide) (hts (.fieldLink RX12 140 "SeatsRoundModel" "keepers" "I") (List.mem_of_getElem? (i := 1) rfl)) (fun _ h9 => h9) rfl dX12_keeper_22 ?_
      change W _ _ _ _ _ _ _ _ _ _ _ _ _ _ _ (F0 m 25 ls [.int 0])
      refine lv_bipush (v := 12) hx hb dX12_keeper_25 (by decide) ?_
      refine lv_icmp_ne (tgt := 33) hx hb dX12_keeper_27 (by decide) (fun _ => ?_) (fun c_5 => absurd c_5 (by decide))
      refine lv_aload_n hx hb dX12_keeper_33 rfl (lv_at hl 0 rfl) ?_
      refine va_get (D := (dC, dI)) (ci := 12) (v := .ref m4) (C := RX12) (T := TX12) (N := 59) hx hb hts (fun _ h9 => List.mem_cons_of_mem _ (List.mem_append_right _ h9)) hown hK hP 0 rfl rfl 4 (by decide) (hts (.fieldLink RX12 16 "SeatsRoundModel" "street" "[I") (List.mem_of_getElem? (i := 2) rfl)) (fun _ h9 => h9) rfl dX12_keeper_34 ?_
      refine lv_aload_n hx hb dX12_keeper_37 rfl (lv_at hl 0 rfl) ?_
      refine va_get (D := (dC, dI)) (ci := 12) (v := .int 0) (C := RX12) (T := TX12) (N := 59) hx hb hts (fun _ h9 => List.mem_cons_of_mem _ (List.mem_append_right _ h9)) hown hK hP 0 rfl rfl 3 (by decide) (hts (.fieldLink RX12 140 "SeatsRoundModel" "keepers" "I") (List.mem_of_getElem? (i := 1) rfl)) (fun _ h9 => h9) rfl dX12_keeper_38 ?_
      refine lv_iload_n hx hb dX12_keeper_41 rfl (lv_at hl 1 rfl) ?_
      refine va_iast hx hb hK hP hD hS 1 0 rfl rfl (vp_in_nI (n := 0) (N := 12) (by decide) (by decide)) dX12_keeper_42 (fun H locs hP hD hS => ?_)
      generalize upd (fun _ => 0) (Int32.toNatClampNeg 0) p0 = g_6 at hP hD
      have hP : va_P (dC, dI) vwCl [(h0, .inr (12, [.int 0, .ref m1, .ref m2, .int 0, .ref m4, .ref m5, .ref m6, .ref m7, .ref m8, .int 0, .ref m10, .ref m11, .ref m12, .ref m13, .ref m14, .ref m15, .ref m16, .ref m17, .ref m18, .ref m19, .ref m20, .ref m21, .int 0, .ref m23, .ref m24, .ref m25, .ref m26, .ref m27, .ref m28, .int 0, .int 0, .ref m31, .int 0, .ref m33, .int 0, .ref m35, .int (-1), .ref m37, .int 0, .ref m39, .ref m40, .ref m41, .ref m42, .ref m43, .int 0, .int 0, .int 0, .int 0, .int 0, .int 0, .int 0, .int 0, .ref m52, .int 0, .ref m54, .int 0, .ref m56, .ref m57, .ref m58])), (m4, .inl (cy 0, 12, .inl g_6)), (m5, .inl (cy 0, 12, .inl (fun _ => 0)))] H := hP
      have hD : va_D A [(h0, .inr (12, [.int 0, .ref m1, .ref m2, .int 0, .ref m4, .ref m5, .ref m6, .ref m7, .ref m8, .int 0, .ref m10, .ref m11, .ref m12, .ref m13, .ref m14, .ref m15, .ref m16, .ref m17, .ref m18, .ref m19, .ref m20, .ref m21, .int 0, .ref m23, .ref m24, .ref m25, .ref m26, .ref m27, .ref m28, .int 0, .int 0, .ref m31, .int 0, .ref m33, .int 0, .ref m35, .int (-1), .ref m37, .int 0, .ref m39, .ref m40, .ref m41, .ref m42, .ref m43, .int 0, .int 0, .int 0, .int 0, .int 0, .int 0, .int 0, .int 0, .ref m52, .int 0, .ref m54, .int 0, .ref m56, .ref m57, .ref m58])), (m4, .inl (cy 0, 12, .inl g_6)), (m5, .inl (cy 0, 12, .inl (fun _ => 0)))] := hD
      change W _ _ _ _ _ _ _ _ _ _ _ _ _ _ _ (F0 m 43 ls [])
      refine lv_aload_n hx hb dX12_keeper_43 rfl (lv_at hl 0 rfl) ?_
      refine va_get (D := (dC, dI)) (ci := 12) (v := .ref m5) (C := RX12) (T := TX12) (N := 59) hx hb hts (fun _ h9 => List.mem_cons_of_mem _ (List.mem_append_right _ h9)) hown hK hP 0 rfl rfl 5 (by decide) (hts (.fieldLink RX12 19 "SeatsRoundModel" "strength" "[I") (List.mem_of_getElem? (i := 3) rfl)) (fun _ h9 => h9) rfl dX12_keeper_44 ?_
      refine lv_aload_n hx hb dX12_keeper_47 rfl (lv_at hl 0 rfl) ?_
      refine va_get (D := (dC, dI)) (ci := 12) (v := .int 0) (C := RX12) (T := TX12) (N := 59) hx hb hts (fun _ h9 => List.mem_cons_of_mem _ (List.mem_append_right _ h9)) hown hK hP 0 rfl rfl 3 (by decide) (hts (.fieldLink RX12 140 "SeatsRoundModel" "keepers" "I") (List.mem_of_getElem? (i := 1) rfl)) (fun _ h9 => h9) rfl dX12_keeper_48 ?_
      refine lv_iload_n hx hb dX12_keeper_51 rfl (lv_at hl 2 rfl) ?_
      refine va_iast hx hb hK hP hD hS 2 0 rfl rfl (vp_in_nI (n := 0) (N := 12) (by decide) (by decide)) dX12_keeper_52 (fun H locs hP hD hS => ?_)
      generalize upd (fun _ => 0) (Int32.toNatClampNeg 0) p1 = g_7 at hP hD
      have hP : va_P (dC, dI) vwCl [(h0, .inr (12, [.int 0, .ref m1, .ref m2, .int 0, .ref m4, .ref m5, .ref m6, .ref m7, .ref m8, .int 0, .ref m10, .ref m11, .ref m12, .ref m13, .ref m14, .ref m15, .ref m16, .ref m17, .ref m18, .ref m19, .ref m20, .ref m21, .int 0, .ref m23, .ref m24, .ref m25, .ref m26, .ref m27, .ref m28, .int 0, .int 0, .ref m31, .int 0, .ref m33, .int 0, .ref m35, .int (-1), .ref m37, .int 0, .ref m39, .ref m40, .ref m41, .ref m42, .ref m43, .int 0, .int 0, .int 0, .int 0, .int 0, .int 0, .int 0, .int 0, .ref m52, .int 0, .ref m54, .int 0, .ref m56, .ref m57, .ref m58])), (m4, .inl (cy 0, 12, .inl g_6)), (m5, .inl (cy 0, 12, .inl g_7))] H := hP
      have hD : va_D A [(h0, .inr (12, [.int 0, .ref m1, .ref m2, .int 0, .ref m4, .ref m5, .ref m6, .ref m7, .ref m8, .int 0, .ref m10, .ref m11, .ref m12, .ref m13, .ref m14, .ref m15, .ref m16, .ref m17, .ref m18, .ref m19, .ref m20, .ref m21, .int 0, .ref m23, .ref m24, .ref m25, .ref m26, .ref m27, .ref m28, .int 0, .int 0, .ref m31, .int 0, .ref m33, .int 0, .ref m35, .int (-1), .ref m37, .int 0, .ref m39, .ref m40, .ref m41, .ref m42, .ref m43, .int 0, .int 0, .int 0, .int 0, .int 0, .int 0, .int 0, .int 0, .ref m52, .int 0, .ref m54, .int 0, .ref m56, .ref m57, .ref m58])), (m4, .inl (cy 0, 12, .inl g_6)), (m5, .inl (cy 0, 12, .inl g_7))] := hD
      refine lv_aload_n hx hb dX12_keeper_53 rfl (lv_at hl 0 rfl) ?_
      refine lv_dup hx hb dX12_keeper_54 rfl ?_
      change W _ _ _ _ _ _ _ _ _ _ _ _ _ _ _ (F0 m 55 ls [.ref h0, .ref h0])
      refine va_get (D := (dC, dI)) (ci := 12) (v := .int 0) (C := RX12) (T := TX12) (N := 59) hx hb hts (fun _ h9 => List.mem_cons_of_mem _ (List.mem_append_right _ h9)) hown hK hP 0 rfl rfl 3 (by decide) (hts (.fieldLink RX12 140 "SeatsRoundModel" "keepers" "I") (List.mem_of_getElem? (i := 1) rfl)) (fun _ h9 => h9) rfl dX12_keeper_55 ?_
      refine lv_iconst (v := 1) hx hb dX12_keeper_58 (by decide) ?_
      refine lv_iadd hx hb dX12_keeper_59 ?_
      refine lv_topi (fun f_8 ef_8 => ?_)
      obtain rfl : f_8 = 1 := ef_8.trans (by decide)
      refine va_put (D := (dC, dI)) (ci := 12) (v := .int 1) (C := RX12) (T := TX12) (N := 59) hx hb hts (fun _ h9 => List.mem_cons_of_mem _ (List.mem_append_right _ h9)) tyX12 tyX12_ok nmX12 hown hK hP hD hS 0 rfl rfl 3 (by decide) (hts (.fieldLink RX12 140 "SeatsRoundModel" "keepers" "I") (List.mem_of_getElem? (i := 1) rfl)) (fun _ h9 => h9) rfl (tyX12_ok 3 (by decide)) rfl rfl (Nat.le_of_ble_eq_true rfl) dX12_keeper_60 (fun H locs hP hD hS => ?_)
      have hP : va_P (dC, dI) vwCl [(h0, .inr (12, [.int 0, .ref m1, .ref m2, .int 1, .ref m4, .ref m5, .ref m6, .ref m7, .ref m8, .int 0, .ref m10, .ref m11, .ref m12, .ref m13, .ref m14, .ref m15, .ref m16, .ref m17, .ref m18, .ref m19, .ref m20, .ref m21, .int 0, .ref m23, .ref m24, .ref m25, .ref m26, .ref m27, .ref m28, .int 0, .int 0, .ref m31, .int 0, .ref m33, .int 0, .ref m35, .int (-1), .ref m37, .int 0, .ref m39, .ref m40, .ref m41, .ref m42, .ref m43, .int 0, .int 0, .int 0, .int 0, .int 0, .int 0, .int 0, .int 0, .ref m52, .int 0, .ref m54, .int 0, .ref m56, .ref m57, .ref m58])), (m4, .inl (cy 0, 12, .inl g_6)), (m5, .inl (cy 0, 12, .inl g_7))] H := hP
      have hD : va_D A [(h0, .inr (12, [.int 0, .ref m1, .ref m2, .int 1, .ref m4, .ref m5, .ref m6, .ref m7, .ref m8, .int 0, .ref m10, .ref m11, .ref m12, .ref m13, .ref m14, .ref m15, .ref m16, .ref m17, .ref m18, .ref m19, .ref m20, .ref m21, .int 0, .ref m23, .ref m24, .ref m25, .ref m26, .ref m27, .ref m28, .int 0, .int 0, .ref m31, .int 0, .ref m33, .int 0, .ref m35, .int (-1), .ref m37, .int 0, .ref m39, .ref m40, .ref m41, .ref m42, .ref m43, .int 0, .int 0, .int 0, .int 0, .int 0, .int 0, .int 0, .int 0, .ref m52, .int 0, .ref m54, .int 0, .ref m56, .ref m57, .ref m58])), (m4, .inl (cy 0, 12, .inl g_6)), (m5, .inl (cy 0, 12, .inl g_7))] := hD
      refine lv_aload_n hx hb dX12_keeper_63 rfl (lv_at hl 0 rfl) ?_
      refine va_get (D := (dC, dI)) (ci := 12) (v := .int 1) (C := RX12) (T := TX12) (N := 59) hx hb hts (fun _ h9 => List.mem_cons_of_mem _ (List.mem_append_right _ h9)) hown hK hP 0 rfl rfl 3 (by decide) (hts (.fieldLink RX12 140 "SeatsRoundModel" "keepers" "I") (List.mem_of_getElem? (i := 1) rfl)) (fun _ h9 => h9) rfl dX12_keeper_64 ?_
      refine lv_iconst (v := 1) hx hb dX12_keeper_67 (by decide) ?_
      refine lv_isub hx hb dX12_keeper_68 ?_
      refine lv_topi (fun f_9 ef_9 => ?_)
      obtain rfl : f_9 = 0 := ef_9.trans (by decide)
      change W _ _ _ _ _ _ _ _ _ _ _ _ _ _ _ (F0 m 69 ls [.int 0])
      exact W.iret (v := 0) hx hb hr (fun t ht hW => ⟨⟨0, (), rfl, (by unfold sp_keeper; split <;> (try split) <;> first | rfl | (exfalso; omega)), trivial⟩, hS.F ht⟩) hS.2.2 dX12_keeper_69
    · have ic_3 : ¬ ((1 : Int) ≤ p1.toInt ∧ p1.toInt ≤ (8 : Int)) := c_3
      refine lv_if_ne (tgt := 21) hx hb dX12_keeper_16 (by decide) (fun c_10 => absurd c_10 (by decide)) (fun _ => ?_)
      refine lv_iconst (v := (-1)) hx hb dX12_keeper_19 (by decide) ?_
      exact W.iret (v := (-1)) hx hb hr (fun t ht hW => ⟨⟨(-1), (), rfl, (by unfold sp_keeper; split <;> (try split) <;> first | rfl | (exfalso; omega)), trivial⟩, hS.F ht⟩) hS.2.2 dX12_keeper_20
  · have ic_1 : ¬ ((0 : Int) ≤ p0.toInt ∧ p0.toInt ≤ (5 : Int)) := c_1
    refine lv_if_eq (tgt := 19) hx hb dX12_keeper_6 (by decide) (fun _ => ?_) (fun c_11 => absurd c_11 (by decide))
    refine lv_iconst (v := (-1)) hx hb dX12_keeper_19 (by decide) ?_
    exact W.iret (v := (-1)) hx hb hr (fun t ht hW => ⟨⟨(-1), (), rfl, (by unfold sp_keeper; split <;> (try split) <;> first | rfl | (exfalso; omega)), trivial⟩, hS.F ht⟩) hS.2.2 dX12_keeper_20
set_option maxHeartbeats 4000000 in
set_option maxRecDepth 100000 in
theorem c_M_become (l : Launch) (dC : Nat → ClassId) (dI : Nat → Nat → Nat) (cy : Nat → ClassId) (h0 : Nat) (m1 : Nat) (m2 : Nat) (m4 : Nat) (m5 : Nat) (m6 : Nat) (m7 : Nat) (m8 : Nat) (m10 : Nat) (m11 : Nat) (m12 : Nat) (m13 : Nat) (m14 : Nat) (m15 : Nat) (m16 : Nat) (m17 : Nat) (m18 : Nat) (m19 : Nat) (m20 : Nat) (m21 : Nat) (m23 : Nat) (m24 : Nat) (m25 : Nat) (m26 : Nat) (m27 : Nat) (m28 : Nat) (m31 : Nat) (m33 : Nat) (m35 : Nat) (m37 : Nat) (m39 : Nat) (m40 : Nat) (m41 : Nat) (m42 : Nat) (m43 : Nat) (m52 : Nat) (m54 : Nat) (m56 : Nat) (m57 : Nat) (m58 : Nat) (p0 : Int32) (p1 : Int32) (sz : Nat)  : Met l yX12_become wsX12_become ({ frames := 3, cells := 0, slots := 0, locals := 66 }) (va_Pc [.ref h0, .int p0, .int p1] (wPre (dC, dI) cy [(h0, .inr (12, [.int 0, .ref m1, .ref m2, .int 0, .ref m4, .ref m5, .ref m6, .ref m7, .ref m8, .int 0, .ref m10, .ref m11, .ref m12, .ref m13, .ref m14, .ref m15, .ref m16, .ref m17, .ref m18, .ref m19, .ref m20, .ref m21, .int 0, .ref m23, .ref m24, .ref m25, .ref m26, .ref m27, .ref m28, .int 0, .int 0, .ref m31, .int 0, .ref m33, .int 0, .ref m35, .int (-1), .ref m37, .int 0, .ref m39, .ref m40, .ref m41, .ref m42, .ref m43, .int 0, .int 0, .int 0, .int 0, .int 0, .int 0, .int 0, .int 0, .ref m52, .int 0, .ref m54, .int 0, .ref m56, .ref m57, .ref m58]))] sz)) (va_Qi (fun (r : Int32) (u : Unit) => r = -1) (fun (u : Unit) t => True) (va_A [(h0, .inr (12, [.int 0, .ref m1, .ref m2, .int 0, .ref m4, .ref m5, .ref m6, .ref m7, .ref m8, .int 0, .ref m10, .ref m11, .ref m12, .ref m13, .ref m14, .ref m15, .ref m16, .ref m17, .ref m18, .ref m19, .ref m20, .ref m21, .int 0, .ref m23, .ref m24, .ref m25, .ref m26, .ref m27, .ref m28, .int 0, .int 0, .ref m31, .int 0, .ref m33, .int 0, .ref m35, .int (-1), .ref m37, .int 0, .ref m39, .ref m40, .ref m41, .ref m42, .ref m43, .int 0, .int 0, .int 0, .int 0, .int 0, .int 0, .int 0, .int 0, .ref m52, .int 0, .ref m54, .int 0, .ref m56, .ref m57, .ref m58]))] sz)) 0 0 (va_A [(h0, .inr (12, [.int 0, .ref m1, .ref m2, .int 0, .ref m4, .ref m5, .ref m6, .ref m7, .ref m8, .int 0, .ref m10, .ref m11, .ref m12, .ref m13, .ref m14, .ref m15, .ref m16, .ref m17, .ref m18, .ref m19, .ref m20, .ref m21, .int 0, .ref m23, .ref m24, .ref m25, .ref m26, .ref m27, .ref m28, .int 0, .int 0, .ref m31, .int 0, .ref m33, .int 0, .ref m35, .int (-1), .ref m37, .int 0, .ref m39, .ref m40, .ref m41, .ref m42, .ref m43, .int 0, .int 0, .int 0, .int 0, .int 0, .int 0, .int 0, .int 0, .ref m52, .int 0, .ref m54, .int 0, .ref m56, .ref m57, .ref m58]))] sz) := by
  refine Met.ofW (cc := cX12_become) (maxL := 6) (ret := (some .int)) (by decide) rfl ?_
  intro p e s m args below meth c s₁ B hml hv
  obtain ⟨rfl, hsz, hP, hK, hD0, hN⟩ := hv
  have hx := B.exec
  have hb := B.bytes
  have hr := B.returns
  have hts := atoms_spec (ws := wsX12_become) B.pre
  have hown : s.vm.findClass RX12 = some m.cls := findClass_of_methodNamed B.named
  have hlocks := B.notSynchronized
  subst hsz
  have hD := hD0.self (sz := s.heap.size)
  generalize hAe : va_A [(h0, .inr (12, [.int 0, .ref m1, .ref m2, .int 0, .ref m4, .ref m5, .ref m6, .ref m7, .ref m8, .int 0, .ref m10, .ref m11, .ref m12, .ref m13, .ref m14, .ref m15, .ref m16, .ref m17, .ref m18, .ref m19, .ref m20, .ref m21, .int 0, .ref m23, .ref m24, .ref m25, .ref m26, .ref m27, .ref m28, .int 0, .int 0, .ref m31, .int 0, .ref m33, .int 0, .ref m35, .int (-1), .ref m37, .int 0, .ref m39, .ref m40, .ref m41, .ref m42, .ref m43, .int 0, .int 0, .int 0, .int 0, .int 0, .int 0, .int 0, .int 0, .ref m52, .int 0, .ref m54, .int 0, .ref m56, .ref m57, .ref m58]))] s.heap.size = A at hD ⊢
  have hA : ∀ q : Nat, s.heap.size ≤ q → A q := fun q h => by rw [← hAe]; exact Or.inr h
  have hS : va_S A s.heap s.heap [] := va_S.rf
  have hl := lv_entry ([.ref h0, .int p0, .int p1]) (n := 6) (Nat.le_of_ble_eq_true rfl)
  rw [lg_entry_eq]
  generalize (lg_sl ([.ref h0, .int p0, .int p1]) ++ List.replicate (6 - (lg_sl ([.ref h0, .int p0, .int p1])).length) Slot.unset).toArray = ls at hl ⊢
  have hl : lv_has ls 6 [(0, .ref h0), (1, .int p0), (2, .int p1)] := hl
  refine lv_aload_n hx hb dX12_become_0 rfl (lv_at hl 0 rfl) ?_
  refine lv_iload_n hx hb dX12_become_1 rfl (lv_at hl 1 rfl) ?_
  have hPc := hP.sub (ws' := [(h0, .inr (12, [.int 0, .ref m1, .ref m2, .int 0, .ref m4, .ref m5, .ref m6, .ref m7, .ref m8, .int 0, .ref m10, .ref m11, .ref m12, .ref m13, .ref m14, .ref m15, .ref m16, .ref m17, .ref m18, .ref m19, .ref m20, .ref m21, .int 0, .ref m23, .ref m24, .ref m25, .ref m26, .ref m27, .ref m28, .int 0, .int 0, .ref m31, .int 0, .ref m33, .int 0, .ref m35, .int (-1), .ref m37, .int 0, .ref m39, .ref m40, .ref m41, .ref m42, .ref m43, .int 0, .int 0, .int 0, .int 0, .int 0, .int 0, .int 0, .int 0, .ref m52, .int 0, .ref m54, .int 0, .ref m56, .ref m57, .ref m58]))]) [0] rfl
  have hDc := hD.sub (ws' := [(h0, .inr (12, [.int 0, .ref m1, .ref m2, .int 0, .ref m4, .ref m5, .ref m6, .ref m7, .ref m8, .int 0, .ref m10, .ref m11, .ref m12, .ref m13, .ref m14, .ref m15, .ref m16, .ref m17, .ref m18, .ref m19, .ref m20, .ref m21, .int 0, .ref m23, .ref m24, .ref m25, .ref m26, .ref m27, .ref m28, .int 0, .int 0, .ref m31, .int 0, .ref m33, .int 0, .ref m35, .int (-1), .ref m37, .int 0, .ref m39, .ref m40, .ref m41, .ref m42, .ref m43, .int 0, .int 0, .int 0, .int 0, .int 0, .int 0, .int 0, .int 0, .ref m52, .int 0, .ref m54, .int 0, .ref m56, .ref m57, .ref m58]))]) [0] (by decide) rfl
  refine vz_callSi (va_runV (As := [.int p0]) (rest := []) ⟨hx, hb, hml, hown, hts⟩ (c_M_isKeeper l dC dI cy h0 m1 m2 m4 m5 m6 m7 m8 m10 m11 m12 m13 m14 m15 m16 m17 m18 m19 m20 m21 m23 m24 m25 m26 m27 m28 m31 m33 m35 m37 m39 m40 m41 m42 m43 m52 m54 m56 m57 m58 p0 s.heap.size) (cwV 1 hts gX12_become_X12_isKeeper rfl rfl rfl (by decide +kernel) ⟨Nat.le_of_ble_eq_true rfl, Nat.le_of_ble_eq_true rfl⟩) (wp_V hK hN hPc hDc (va_recv hK hPc (ci := 12) (q0 := 0) rfl rfl)) rfl rfl hl.1 rfl (lv_room (Nat.le_of_ble_eq_true rfl)) dX12_become_2 ⟨Nat.le_of_ble_eq_true rfl, Nat.le_of_ble_eq_true rfl⟩) (fun r_1 hw_1 => ?_)
  obtain rfl : r_1 = 0 := hw_1
  refine lv_if_eq (tgt := 18) hx hb dX12_become_5 (by decide) (fun _ => ?_) (fun c_2 => absurd c_2 (by decide))
  refine lv_iconst (v := (-1)) hx hb dX12_become_18 (by decide) ?_
  exact W.iret (v := (-1)) hx hb hr (fun t ht hW => ⟨⟨(-1), (), rfl, (by first | rfl | (exfalso; omega)), trivial⟩, hS.F ht⟩) hS.2.2 dX12_become_19
set_option maxHeartbeats 4000000 in
set_option maxRecDepth 100000 in
theorem c_M_strength (l : Launch) (dC : Nat → ClassId) (dI : Nat → Nat → Nat) (cy : Nat → ClassId) (h0 : Nat) (m1 : Nat) (m2 : Nat) (m4 : Nat) (m5 : Nat) (m6 : Nat) (m7 : Nat) (m8 : Nat) (m10 : Nat) (m11 : Nat) (m12 : Nat) (m13 : Nat) (m14 : Nat) (m15 : Nat) (m16 : Nat) (m17 : Nat) (m18 : Nat) (m19 : Nat) (m20 : Nat) (m21 : Nat) (m23 : Nat) (m24 : Nat) (m25 : Nat) (m26 : Nat) (m27 : Nat) (m28 : Nat) (m31 : Nat) (m33 : Nat) (m35 : Nat) (m37 : Nat) (m39 : Nat) (m40 : Nat) (m41 : Nat) (m42 : Nat) (m43 : Nat) (m52 : Nat) (m54 : Nat) (m56 : Nat) (m57 : Nat) (m58 : Nat) (p0 : Int32) (p1 : Int32) (sz : Nat)  : Met l yX12_strength wsX12_strength ({ frames := 3, cells := 0, slots := 0, locals := 66 }) (va_Pc [.ref h0, .int p0, .int p1] (wPre (dC, dI) cy [(h0, .inr (12, [.int 0, .ref m1, .ref m2, .int 0, .ref m4, .ref m5, .ref m6, .ref m7, .ref m8, .int 0, .ref m10, .ref m11, .ref m12, .ref m13, .ref m14, .ref m15, .ref m16, .ref m17, .ref m18, .ref m19, .ref m20, .ref m21, .int 0, .ref m23, .ref m24, .ref m25, .ref m26, .ref m27, .ref m28, .int 0, .int 0, .ref m31, .int 0, .ref m33, .int 0, .ref m35, .int (-1), .ref m37, .int 0, .ref m39, .ref m40, .ref m41, .ref m42, .ref m43, .int 0, .int 0, .int 0, .int 0, .int 0, .int 0, .int 0, .int 0, .ref m52, .int 0, .ref m54, .int 0, .ref m56, .ref m57, .ref m58]))] sz)) (va_Qi (fun (r : Int32) (u : Unit) => r = -1) (fun (u : Unit) t => True) (va_A [(h0, .inr (12, [.int 0, .ref m1, .ref m2, .int 0, .ref m4, .ref m5, .ref m6, .ref m7, .ref m8, .int 0, .ref m10, .ref m11, .ref m12, .ref m13, .ref m14, .ref m15, .ref m16, .ref m17, .ref m18, .ref m19, .ref m20, .ref m21, .int 0, .ref m23, .ref m24, .ref m25, .ref m26, .ref m27, .ref m28, .int 0, .int 0, .ref m31, .int 0, .ref m33, .int 0, .ref m35, .int (-1), .ref m37, .int 0, .ref m39, .ref m40, .ref m41, .ref m42, .ref m43, .int 0, .int 0, .int 0, .int 0, .int 0, .int 0, .int 0, .int 0, .ref m52, .int 0, .ref m54, .int 0, .ref m56, .ref m57, .ref m58]))] sz)) 0 0 (va_A [(h0, .inr (12, [.int 0, .ref m1, .ref m2, .int 0, .ref m4, .ref m5, .ref m6, .ref m7, .ref m8, .int 0, .ref m10, .ref m11, .ref m12, .ref m13, .ref m14, .ref m15, .ref m16, .ref m17, .ref m18, .ref m19, .ref m20, .ref m21, .int 0, .ref m23, .ref m24, .ref m25, .ref m26, .ref m27, .ref m28, .int 0, .int 0, .ref m31, .int 0, .ref m33, .int 0, .ref m35, .int (-1), .ref m37, .int 0, .ref m39, .ref m40, .ref m41, .ref m42, .ref m43, .int 0, .int 0, .int 0, .int 0, .int 0, .int 0, .int 0, .int 0, .ref m52, .int 0, .ref m54, .int 0, .ref m56, .ref m57, .ref m58]))] sz) := by
  refine Met.ofW (cc := cX12_strength) (maxL := 4) (ret := (some .int)) (by decide) rfl ?_
  intro p e s m args below meth c s₁ B hml hv
  obtain ⟨rfl, hsz, hP, hK, hD0, hN⟩ := hv
  have hx := B.exec
  have hb := B.bytes
  have hr := B.returns
  have hts := atoms_spec (ws := wsX12_strength) B.pre
  have hown : s.vm.findClass RX12 = some m.cls := findClass_of_methodNamed B.named
  have hlocks := B.notSynchronized
  subst hsz
  have hD := hD0.self (sz := s.heap.size)
  generalize hAe : va_A [(h0, .inr (12, [.int 0, .ref m1, .ref m2, .int 0, .ref m4, .ref m5, .ref m6, .ref m7, .ref m8, .int 0, .ref m10, .ref m11, .ref m12, .ref m13, .ref m14, .ref m15, .ref m16, .ref m17, .ref m18, .ref m19, .ref m20, .ref m21, .int 0, .ref m23, .ref m24, .ref m25, .ref m26, .ref m27, .ref m28, .int 0, .int 0, .ref m31, .int 0, .ref m33, .int 0, .ref m35, .int (-1), .ref m37, .int 0, .ref m39, .ref m40, .ref m41, .ref m42, .ref m43, .int 0, .int 0, .int 0, .int 0, .int 0, .int 0, .int 0, .int 0, .ref m52, .int 0, .ref m54, .int 0, .ref m56, .ref m57, .ref m58]))] s.heap.size = A at hD ⊢
  have hA : ∀ q : Nat, s.heap.size ≤ q → A q := fun q h => by rw [← hAe]; exact Or.inr h
  have hS : va_S A s.heap s.heap [] := va_S.rf
  have hl := lv_entry ([.ref h0, .int p0, .int p1]) (n := 4) (Nat.le_of_ble_eq_true rfl)
  rw [lg_entry_eq]
  generalize (lg_sl ([.ref h0, .int p0, .int p1]) ++ List.replicate (4 - (lg_sl ([.ref h0, .int p0, .int p1])).length) Slot.unset).toArray = ls at hl ⊢
  have hl : lv_has ls 4 [(0, .ref h0), (1, .int p0), (2, .int p1)] := hl
  refine lv_aload_n hx hb dX12_strength_0 rfl (lv_at hl 0 rfl) ?_
  refine lv_iload_n hx hb dX12_strength_1 rfl (lv_at hl 1 rfl) ?_
  have hPc := hP.sub (ws' := [(h0, .inr (12, [.int 0, .ref m1, .ref m2, .int 0, .ref m4, .ref m5, .ref m6, .ref m7, .ref m8, .int 0, .ref m10, .ref m11, .ref m12, .ref m13, .ref m14, .ref m15, .ref m16, .ref m17, .ref m18, .ref m19, .ref m20, .ref m21, .int 0, .ref m23, .ref m24, .ref m25, .ref m26, .ref m27, .ref m28, .int 0, .int 0, .ref m31, .int 0, .ref m33, .int 0, .ref m35, .int (-1), .ref m37, .int 0, .ref m39, .ref m40, .ref m41, .ref m42, .ref m43, .int 0, .int 0, .int 0, .int 0, .int 0, .int 0, .int 0, .int 0, .ref m52, .int 0, .ref m54, .int 0, .ref m56, .ref m57, .ref m58]))]) [0] rfl
  have hDc := hD.sub (ws' := [(h0, .inr (12, [.int 0, .ref m1, .ref m2, .int 0, .ref m4, .ref m5, .ref m6, .ref m7, .ref m8, .int 0, .ref m10, .ref m11, .ref m12, .ref m13, .ref m14, .ref m15, .ref m16, .ref m17, .ref m18, .ref m19, .ref m20, .ref m21, .int 0, .ref m23, .ref m24, .ref m25, .ref m26, .ref m27, .ref m28, .int 0, .int 0, .ref m31, .int 0, .ref m33, .int 0, .ref m35, .int (-1), .ref m37, .int 0, .ref m39, .ref m40, .ref m41, .ref m42, .ref m43, .int 0, .int 0, .int 0, .int 0, .int 0, .int 0, .int 0, .int 0, .ref m52, .int 0, .ref m54, .int 0, .ref m56, .ref m57, .ref m58]))]) [0] (by decide) rfl
  refine vz_callSi (va_runV (As := [.int p0]) (rest := []) ⟨hx, hb, hml, hown, hts⟩ (c_M_isKeeper l dC dI cy h0 m1 m2 m4 m5 m6 m7 m8 m10 m11 m12 m13 m14 m15 m16 m17 m18 m19 m20 m21 m23 m24 m25 m26 m27 m28 m31 m33 m35 m37 m39 m40 m41 m42 m43 m52 m54 m56 m57 m58 p0 s.heap.size) (cwV 1 hts gX12_strength_X12_isKeeper rfl rfl rfl (by decide +kernel) ⟨Nat.le_of_ble_eq_true rfl, Nat.le_of_ble_eq_true rfl⟩) (wp_V hK hN hPc hDc (va_recv hK hPc (ci := 12) (q0 := 0) rfl rfl)) rfl rfl hl.1 rfl (lv_room (Nat.le_of_ble_eq_true rfl)) dX12_strength_2 ⟨Nat.le_of_ble_eq_true rfl, Nat.le_of_ble_eq_true rfl⟩) (fun r_1 hw_1 => ?_)
  obtain rfl : r_1 = 0 := hw_1
  refine lv_if_eq (tgt := 18) hx hb dX12_strength_5 (by decide) (fun _ => ?_) (fun c_2 => absurd c_2 (by decide))
  refine lv_iconst (v := (-1)) hx hb dX12_strength_18 (by decide) ?_
  change W _ _ _ _ _ _ _ _ _ _ _ _ _ _ _ (F0 m 19 ls [.int (-1)])
  exact W.iret (v := (-1)) hx hb hr (fun t ht hW => ⟨⟨(-1), (), rfl, (by first | rfl | (exfalso; omega)), trivial⟩, hS.F ht⟩) hS.2.2 dX12_strength_19
set_option maxHeartbeats 4000000 in
set_option maxRecDepth 100000 in
theorem c_M_table (l : Launch) (dC : Nat → ClassId) (dI : Nat → Nat → Nat) (cy : Nat → ClassId) (h0 : Nat) (m1 : Nat) (m2 : Nat) (m4 : Nat) (m5 : Nat) (m6 : Nat) (m7 : Nat) (m8 : Nat) (m10 : Nat) (m11 : Nat) (m12 : Nat) (m13 : Nat) (m14 : Nat) (m15 : Nat) (m16 : Nat) (m17 : Nat) (m18 : Nat) (m19 : Nat) (m20 : Nat) (m21 : Nat) (m23 : Nat) (m24 : Nat) (m25 : Nat) (m26 : Nat) (m27 : Nat) (m28 : Nat) (m31 : Nat) (m33 : Nat) (m35 : Nat) (m37 : Nat) (m39 : Nat) (m40 : Nat) (m41 : Nat) (m42 : Nat) (m43 : Nat) (m52 : Nat) (m54 : Nat) (m56 : Nat) (m57 : Nat) (m58 : Nat) (p0 : Int32) (p1 : Int32) (sz : Nat)  : Met l yX12_table wsX12_table ({ frames := 1, cells := 0, slots := 0, locals := 23 }) (va_Pc [.ref h0, .int p0, .int p1] (wPre (dC, dI) cy [(h0, .inr (12, [.int 0, .ref m1, .ref m2, .int 0, .ref m4, .ref m5, .ref m6, .ref m7, .ref m8, .int 0, .ref m10, .ref m11, .ref m12, .ref m13, .ref m14, .ref m15, .ref m16, .ref m17, .ref m18, .ref m19, .ref m20, .ref m21, .int 0, .ref m23, .ref m24, .ref m25, .ref m26, .ref m27, .ref m28, .int 0, .int 0, .ref m31, .int 0, .ref m33, .int 0, .ref m35, .int (-1), .ref m37, .int 0, .ref m39, .ref m40, .ref m41, .ref m42, .ref m43, .int 0, .int 0, .int 0, .int 0, .int 0, .int 0, .int 0, .int 0, .ref m52, .int 0, .ref m54, .int 0, .ref m56, .ref m57, .ref m58]))] sz)) (va_Qi (fun (r : Int32) (u : Unit) => r = -1) (fun (u : Unit) t => True) (va_A [(h0, .inr (12, [.int 0, .ref m1, .ref m2, .int 0, .ref m4, .ref m5, .ref m6, .ref m7, .ref m8, .int 0, .ref m10, .ref m11, .ref m12, .ref m13, .ref m14, .ref m15, .ref m16, .ref m17, .ref m18, .ref m19, .ref m20, .ref m21, .int 0, .ref m23, .ref m24, .ref m25, .ref m26, .ref m27, .ref m28, .int 0, .int 0, .ref m31, .int 0, .ref m33, .int 0, .ref m35, .int (-1), .ref m37, .int 0, .ref m39, .ref m40, .ref m41, .ref m42, .ref m43, .int 0, .int 0, .int 0, .int 0, .int 0, .int 0, .int 0, .int 0, .ref m52, .int 0, .ref m54, .int 0, .ref m56, .ref m57, .ref m58]))] sz)) 0 0 (va_A [(h0, .inr (12, [.int 0, .ref m1, .ref m2, .int 0, .ref m4, .ref m5, .ref m6, .ref m7, .ref m8, .int 0, .ref m10, .ref m11, .ref m12, .ref m13, .ref m14, .ref m15, .ref m16, .ref m17, .ref m18, .ref m19, .ref m20, .ref m21, .int 0, .ref m23, .ref m24, .ref m25, .ref m26, .ref m27, .ref m28, .int 0, .int 0, .ref m31, .int 0, .ref m33, .int 0, .ref m35, .int (-1), .ref m37, .int 0, .ref m39, .ref m40, .ref m41, .ref m42, .ref m43, .int 0, .int 0, .int 0, .int 0, .int 0, .int 0, .int 0, .int 0, .ref m52, .int 0, .ref m54, .int 0, .ref m56, .ref m57, .ref m58]))] sz) := by
  refine Met.ofW (cc := cX12_table) (maxL := 5) (ret := (some .int)) (by decide) rfl ?_
  intro p e s m args below meth c s₁ B hml hv
  obtain ⟨rfl, hsz, hP, hK, hD0, hN⟩ := hv
  have hx := B.exec
  have hb := B.bytes
  have hr := B.returns
  have hts := atoms_spec (ws := wsX12_table) B.pre
  have hown : s.vm.findClass RX12 = some m.cls := findClass_of_methodNamed B.named
  have hlocks := B.notSynchronized
  subst hsz
  have hD := hD0.self (sz := s.heap.size)
  generalize hAe : va_A [(h0, .inr (12, [.int 0, .ref m1, .ref m2, .int 0, .ref m4, .ref m5, .ref m6, .ref m7, .ref m8, .int 0, .ref m10, .ref m11, .ref m12, .ref m13, .ref m14, .ref m15, .ref m16, .ref m17, .ref m18, .ref m19, .ref m20, .ref m21, .int 0, .ref m23, .ref m24, .ref m25, .ref m26, .ref m27, .ref m28, .int 0, .int 0, .ref m31, .int 0, .ref m33, .int 0, .ref m35, .int (-1), .ref m37, .int 0, .ref m39, .ref m40, .ref m41, .ref m42, .ref m43, .int 0, .int 0, .int 0, .int 0, .int 0, .int 0, .int 0, .int 0, .ref m52, .int 0, .ref m54, .int 0, .ref m56, .ref m57, .ref m58]))] s.heap.size = A at hD ⊢
  have hA : ∀ q : Nat, s.heap.size ≤ q → A q := fun q h => by rw [← hAe]; exact Or.inr h
  have hS : va_S A s.heap s.heap [] := va_S.rf
  have hl := lv_entry ([.ref h0, .int p0, .int p1]) (n := 5) (Nat.le_of_ble_eq_true rfl)
  rw [lg_entry_eq]
  generalize (lg_sl ([.ref h0, .int p0, .int p1]) ++ List.replicate (5 - (lg_sl ([.ref h0, .int p0, .int p1])).length) Slot.unset).toArray = ls at hl ⊢
  have hl : lv_has ls 5 [(0, .ref h0), (1, .int p0), (2, .int p1)] := hl
  refine lv_iload_n hx hb dX12_table_0 rfl (lv_at hl 1 rfl) ?_
  refine lv_if_le (tgt := 14) hx hb dX12_table_1 (by decide) (fun c_1 => ?_) (fun c_1 => ?_)
  · have ic_1 : p0.toInt ≤ (0 : Int) := Int32.le_iff_toInt_le.mp c_1
    refine lv_iconst (v := (-1)) hx hb dX12_table_14 (by decide) ?_
    exact W.iret (v := (-1)) hx hb hr (fun t ht hW => ⟨⟨(-1), (), rfl, (by first | rfl | (exfalso; omega)), trivial⟩, hS.F ht⟩) hS.2.2 dX12_table_15
  · have ic_1 : ¬ p0.toInt ≤ (0 : Int) := fun h9 => c_1 (Int32.le_iff_toInt_le.mpr h9)
    refine lv_iload_n hx hb dX12_table_4 rfl (lv_at hl 1 rfl) ?_
    refine lv_iconst (v := 1) hx hb dX12_table_5 (by decide) ?_
    refine lv_aload_n hx hb dX12_table_6 rfl (lv_at hl 0 rfl) ?_
    refine va_get (D := (dC, dI)) (ci := 12) (v := .int 0) (C := RX12) (T := TX12) (N := 59) hx hb hts (fun _ h9 => List.mem_cons_of_mem _ (List.mem_append_right _ h9)) hown hK hP 0 rfl rfl 3 (by decide) (hts (.fieldLink RX12 140 "SeatsRoundModel" "keepers" "I") (List.mem_of_getElem? (i := 1) rfl)) (fun _ h9 => h9) rfl dX12_table_7 ?_
    refine lv_ishl hx hb dX12_table_10 ?_
    refine lv_topi (fun f_2 ef_2 => ?_)
    obtain rfl : f_2 = 1 := ef_2.trans (by decide)
    refine lv_icmp_lt (tgt := 16) hx hb dX12_table_11 (by decide) (fun c_3 => ?_) (fun c_3 => ?_)
    · have ic_3 : p0.toInt < (1 : Int) := Int32.lt_iff_toInt_lt.mp c_3
      exact absurd True.intro (by omega)
    · have ic_3 : ¬ p0.toInt < (1 : Int) := fun h9 => c_3 (Int32.lt_iff_toInt_lt.mpr h9)
      refine lv_iconst (v := (-1)) hx hb dX12_table_14 (by decide) ?_
      change W _ _ _ _ _ _ _ _ _ _ _ _ _ _ _ (F0 m 15 ls [.int (-1)])
      exact W.iret (v := (-1)) hx hb hr (fun t ht hW => ⟨⟨(-1), (), rfl, (by first | rfl | (exfalso; omega)), trivial⟩, hS.F ht⟩) hS.2.2 dX12_table_15
set_option maxHeartbeats 4000000 in
set_option maxRecDepth 100000 in
theorem c_M_ofTable (l : Launch) (dC : Nat → ClassId) (dI : Nat → Nat → Nat) (cy : Nat → ClassId) (h0 : Nat) (m1 : Nat) (m2 : Nat) (m4 : Nat) (m5 : Nat) (m6 : Nat) (m7 : Nat) (m8 : Nat) (m10 : Nat) (m11 : Nat) (m12 : Nat) (m13 : Nat) (m14 : Nat) (m15 : Nat) (m16 : Nat) (m17 : Nat) (m18 : Nat) (m19 : Nat) (m20 : Nat) (m21 : Nat) (m23 : Nat) (m24 : Nat) (m25 : Nat) (m26 : Nat) (m27 : Nat) (m28 : Nat) (m31 : Nat) (m33 : Nat) (m35 : Nat) (m37 : Nat) (m39 : Nat) (m40 : Nat) (m41 : Nat) (m42 : Nat) (m43 : Nat) (m52 : Nat) (m54 : Nat) (m56 : Nat) (m57 : Nat) (m58 : Nat) (p0 : Int32) (p1 : Int32) (sz : Nat)  : Met l yX12_ofTable wsX12_ofTable ({ frames := 3, cells := 0, slots := 0, locals := 66 }) (va_Pc [.ref h0, .int p0, .int p1] (wPre (dC, dI) cy [(h0, .inr (12, [.int 0, .ref m1, .ref m2, .int 0, .ref m4, .ref m5, .ref m6, .ref m7, .ref m8, .int 0, .ref m10, .ref m11, .ref m12, .ref m13, .ref m14, .ref m15, .ref m16, .ref m17, .ref m18, .ref m19, .ref m20, .ref m21, .int 0, .ref m23, .ref m24, .ref m25, .ref m26, .ref m27, .ref m28, .int 0, .int 0, .ref m31, .int 0, .ref m33, .int 0, .ref m35, .int (-1), .ref m37, .int 0, .ref m39, .ref m40, .ref m41, .ref m42, .ref m43, .int 0, .int 0, .int 0, .int 0, .int 0, .int 0, .int 0, .int 0, .ref m52, .int 0, .ref m54, .int 0, .ref m56, .ref m57, .ref m58]))] sz)) (va_Qi (fun (r : Int32) (u : Unit) => r = -1) (fun (u : Unit) t => True) (va_A [(h0, .inr (12, [.int 0, .ref m1, .ref m2, .int 0, .ref m4, .ref m5, .ref m6, .ref m7, .ref m8, .int 0, .ref m10, .ref m11, .ref m12, .ref m13, .ref m14, .ref m15, .ref m16, .ref m17, .ref m18, .ref m19, .ref m20, .ref m21, .int 0, .ref m23, .ref m24, .ref m25, .ref m26, .ref m27, .ref m28, .int 0, .int 0, .ref m31, .int 0, .ref m33, .int 0, .ref m35, .int (-1), .ref m37, .int 0, .ref m39, .ref m40, .ref m41, .ref m42, .ref m43, .int 0, .int 0, .int 0, .int 0, .int 0, .int 0, .int 0, .int 0, .ref m52, .int 0, .ref m54, .int 0, .ref m56, .ref m57, .ref m58]))] sz)) 0 0 (va_A [(h0, .inr (12, [.int 0, .ref m1, .ref m2, .int 0, .ref m4, .ref m5, .ref m6, .ref m7, .ref m8, .int 0, .ref m10, .ref m11, .ref m12, .ref m13, .ref m14, .ref m15, .ref m16, .ref m17, .ref m18, .ref m19, .ref m20, .ref m21, .int 0, .ref m23, .ref m24, .ref m25, .ref m26, .ref m27, .ref m28, .int 0, .int 0, .ref m31, .int 0, .ref m33, .int 0, .ref m35, .int (-1), .ref m37, .int 0, .ref m39, .ref m40, .ref m41, .ref m42, .ref m43, .int 0, .int 0, .int 0, .int 0, .int 0, .int 0, .int 0, .int 0, .ref m52, .int 0, .ref m54, .int 0, .ref m56, .ref m57, .ref m58]))] sz) := by
  refine Met.ofW (cc := cX12_ofTable) (maxL := 3) (ret := (some .int)) (by decide) rfl ?_
  intro p e s m args below meth c s₁ B hml hv
  obtain ⟨rfl, hsz, hP, hK, hD0, hN⟩ := hv
  have hx := B.exec
  have hb := B.bytes
  have hr := B.returns
  have hts := atoms_spec (ws := wsX12_ofTable) B.pre
  have hown : s.vm.findClass RX12 = some m.cls := findClass_of_methodNamed B.named
  have hlocks := B.notSynchronized
  subst hsz
  have hD := hD0.self (sz := s.heap.size)
  generalize hAe : va_A [(h0, .inr (12, [.int 0, .ref m1, .ref m2, .int 0, .ref m4, .ref m5, .ref m6, .ref m7, .ref m8, .int 0, .ref m10, .ref m11, .ref m12, .ref m13, .ref m14, .ref m15, .ref m16, .ref m17, .ref m18, .ref m19, .ref m20, .ref m21, .int 0, .ref m23, .ref m24, .ref m25, .ref m26, .ref m27, .ref m28, .int 0, .int 0, .ref m31, .int 0, .ref m33, .int 0, .ref m35, .int (-1), .ref m37, .int 0, .ref m39, .ref m40, .ref m41, .ref m42, .ref m43, .int 0, .int 0, .int 0, .int 0, .int 0, .int 0, .int 0, .int 0, .ref m52, .int 0, .ref m54, .int 0, .ref m56, .ref m57, .ref m58]))] s.heap.size = A at hD ⊢
  have hA : ∀ q : Nat, s.heap.size ≤ q → A q := fun q h => by rw [← hAe]; exact Or.inr h
  have hS : va_S A s.heap s.heap [] := va_S.rf
  have hl := lv_entry ([.ref h0, .int p0, .int p1]) (n := 3) (Nat.le_of_ble_eq_true rfl)
  rw [lg_entry_eq]
  generalize (lg_sl ([.ref h0, .int p0, .int p1]) ++ List.replicate (3 - (lg_sl ([.ref h0, .int p0, .int p1])).length) Slot.unset).toArray = ls at hl ⊢
  have hl : lv_has ls 3 [(0, .ref h0), (1, .int p0), (2, .int p1)] := hl
  refine lv_aload_n hx hb dX12_ofTable_0 rfl (lv_at hl 0 rfl) ?_
  refine lv_iload_n hx hb dX12_ofTable_1 rfl (lv_at hl 1 rfl) ?_
  have hPc := hP.sub (ws' := [(h0, .inr (12, [.int 0, .ref m1, .ref m2, .int 0, .ref m4, .ref m5, .ref m6, .ref m7, .ref m8, .int 0, .ref m10, .ref m11, .ref m12, .ref m13, .ref m14, .ref m15, .ref m16, .ref m17, .ref m18, .ref m19, .ref m20, .ref m21, .int 0, .ref m23, .ref m24, .ref m25, .ref m26, .ref m27, .ref m28, .int 0, .int 0, .ref m31, .int 0, .ref m33, .int 0, .ref m35, .int (-1), .ref m37, .int 0, .ref m39, .ref m40, .ref m41, .ref m42, .ref m43, .int 0, .int 0, .int 0, .int 0, .int 0, .int 0, .int 0, .int 0, .ref m52, .int 0, .ref m54, .int 0, .ref m56, .ref m57, .ref m58]))]) [0] rfl
  have hDc := hD.sub (ws' := [(h0, .inr (12, [.int 0, .ref m1, .ref m2, .int 0, .ref m4, .ref m5, .ref m6, .ref m7, .ref m8, .int 0, .ref m10, .ref m11, .ref m12, .ref m13, .ref m14, .ref m15, .ref m16, .ref m17, .ref m18, .ref m19, .ref m20, .ref m21, .int 0, .ref m23, .ref m24, .ref m25, .ref m26, .ref m27, .ref m28, .int 0, .int 0, .ref m31, .int 0, .ref m33, .int 0, .ref m35, .int (-1), .ref m37, .int 0, .ref m39, .ref m40, .ref m41, .ref m42, .ref m43, .int 0, .int 0, .int 0, .int 0, .int 0, .int 0, .int 0, .int 0, .ref m52, .int 0, .ref m54, .int 0, .ref m56, .ref m57, .ref m58]))]) [0] (by decide) rfl
  refine vz_callSi (va_runV (As := [.int p0]) (rest := []) ⟨hx, hb, hml, hown, hts⟩ (c_M_isTable l dC dI cy h0 m1 m2 m4 m5 m6 m7 m8 m10 m11 m12 m13 m14 m15 m16 m17 m18 m19 m20 m21 m23 m24 m25 m26 m27 m28 m31 m33 m35 m37 m39 m40 m41 m42 m43 m52 m54 m56 m57 m58 p0 s.heap.size) (cwV 1 hts gX12_ofTable_X12_isTable rfl rfl rfl (by decide +kernel) ⟨Nat.le_of_ble_eq_true rfl, Nat.le_of_ble_eq_true rfl⟩) (wp_V hK hN hPc hDc (va_recv hK hPc (ci := 12) (q0 := 0) rfl rfl)) rfl rfl hl.1 rfl (lv_room (Nat.le_of_ble_eq_true rfl)) dX12_ofTable_2 ⟨Nat.le_of_ble_eq_true rfl, Nat.le_of_ble_eq_true rfl⟩) (fun r_1 hw_1 => ?_)
  obtain rfl : r_1 = 0 := hw_1
  change W _ _ _ _ _ _ _ _ _ _ _ _ _ _ _ (F0 m 5 ls [.int 0])
  refine lv_if_ne (tgt := 10) hx hb dX12_ofTable_5 (by decide) (fun c_2 => absurd c_2 (by decide)) (fun _ => ?_)
  refine lv_iconst (v := (-1)) hx hb dX12_ofTable_8 (by decide) ?_
  exact W.iret (v := (-1)) hx hb hr (fun t ht hW => ⟨⟨(-1), (), rfl, (by first | rfl | (exfalso; omega)), trivial⟩, hS.F ht⟩) hS.2.2 dX12_ofTable_9
set_option maxHeartbeats 4000000 in
set_option maxRecDepth 100000 in
theorem c_M_seat (l : Launch) (dC : Nat → ClassId) (dI : Nat → Nat → Nat) (cy : Nat → ClassId) (h0 : Nat) (m1 : Nat) (m2 : Nat) (m4 : Nat) (m5 : Nat) (m6 : Nat) (m7 : Nat) (m8 : Nat) (m10 : Nat) (m11 : Nat) (m12 : Nat) (m13 : Nat) (m14 : Nat) (m15 : Nat) (m16 : Nat) (m17 : Nat) (m18 : Nat) (m19 : Nat) (m20 : Nat) (m21 : Nat) (m23 : Nat) (m24 : Nat) (m25 : Nat) (m26 : Nat) (m27 : Nat) (m28 : Nat) (m31 : Nat) (m33 : Nat) (m35 : Nat) (m37 : Nat) (m39 : Nat) (m40 : Nat) (m41 : Nat) (m42 : Nat) (m43 : Nat) (m52 : Nat) (m54 : Nat) (m56 : Nat) (m57 : Nat) (m58 : Nat) (p0 : Int32) (p1 : Int32) (sz : Nat)  : Met l yX12_seat wsX12_seat ({ frames := 3, cells := 0, slots := 0, locals := 66 }) (va_Pc [.ref h0, .int p0, .int p1] (wPre (dC, dI) cy [(h0, .inr (12, [.int 0, .ref m1, .ref m2, .int 0, .ref m4, .ref m5, .ref m6, .ref m7, .ref m8, .int 0, .ref m10, .ref m11, .ref m12, .ref m13, .ref m14, .ref m15, .ref m16, .ref m17, .ref m18, .ref m19, .ref m20, .ref m21, .int 0, .ref m23, .ref m24, .ref m25, .ref m26, .ref m27, .ref m28, .int 0, .int 0, .ref m31, .int 0, .ref m33, .int 0, .ref m35, .int (-1), .ref m37, .int 0, .ref m39, .ref m40, .ref m41, .ref m42, .ref m43, .int 0, .int 0, .int 0, .int 0, .int 0, .int 0, .int 0, .int 0, .ref m52, .int 0, .ref m54, .int 0, .ref m56, .ref m57, .ref m58]))] sz)) (va_Qi (fun (r : Int32) (u : Unit) => r = -1) (fun (u : Unit) t => True) (va_A [(h0, .inr (12, [.int 0, .ref m1, .ref m2, .int 0, .ref m4, .ref m5, .ref m6, .ref m7, .ref m8, .int 0, .ref m10, .ref m11, .ref m12, .ref m13, .ref m14, .ref m15, .ref m16, .ref m17, .ref m18, .ref m19, .ref m20, .ref m21, .int 0, .ref m23, .ref m24, .ref m25, .ref m26, .ref m27, .ref m28, .int 0, .int 0, .ref m31, .int 0, .ref m33, .int 0, .ref m35, .int (-1), .ref m37, .int 0, .ref m39, .ref m40, .ref m41, .ref m42, .ref m43, .int 0, .int 0, .int 0, .int 0, .int 0, .int 0, .int 0, .int 0, .ref m52, .int 0, .ref m54, .int 0, .ref m56, .ref m57, .ref m58]))] sz)) 0 0 (va_A [(h0, .inr (12, [.int 0, .ref m1, .ref m2, .int 0, .ref m4, .ref m5, .ref m6, .ref m7, .ref m8, .int 0, .ref m10, .ref m11, .ref m12, .ref m13, .ref m14, .ref m15, .ref m16, .ref m17, .ref m18, .ref m19, .ref m20, .ref m21, .int 0, .ref m23, .ref m24, .ref m25, .ref m26, .ref m27, .ref m28, .int 0, .int 0, .ref m31, .int 0, .ref m33, .int 0, .ref m35, .int (-1), .ref m37, .int 0, .ref m39, .ref m40, .ref m41, .ref m42, .ref m43, .int 0, .int 0, .int 0, .int 0, .int 0, .int 0, .int 0, .int 0, .ref m52, .int 0, .ref m54, .int 0, .ref m56, .ref m57, .ref m58]))] sz) := by
  refine Met.ofW (cc := cX12_seat) (maxL := 3) (ret := (some .int)) (by decide) rfl ?_
  intro p e s m args below meth c s₁ B hml hv
  obtain ⟨rfl, hsz, hP, hK, hD0, hN⟩ := hv
  have hx := B.exec
  have hb := B.bytes
  have hr := B.returns
  have hts := atoms_spec (ws := wsX12_seat) B.pre
  have hown : s.vm.findClass RX12 = some m.cls := findClass_of_methodNamed B.named
  have hlocks := B.notSynchronized
  subst hsz
  have hD := hD0.self (sz := s.heap.size)
  generalize hAe : va_A [(h0, .inr (12, [.int 0, .ref m1, .ref m2, .int 0, .ref m4, .ref m5, .ref m6, .ref m7, .ref m8, .int 0, .ref m10, .ref m11, .ref m12, .ref m13, .ref m14, .ref m15, .ref m16, .ref m17, .ref m18, .ref m19, .ref m20, .ref m21, .int 0, .ref m23, .ref m24, .ref m25, .ref m26, .ref m27, .ref m28, .int 0, .int 0, .ref m31, .int 0, .ref m33, .int 0, .ref m35, .int (-1), .ref m37, .int 0, .ref m39, .ref m40, .ref m41, .ref m42, .ref m43, .int 0, .int 0, .int 0, .int 0, .int 0, .int 0, .int 0, .int 0, .ref m52, .int 0, .ref m54, .int 0, .ref m56, .ref m57, .ref m58]))] s.heap.size = A at hD ⊢
  have hA : ∀ q : Nat, s.heap.size ≤ q → A q := fun q h => by rw [← hAe]; exact Or.inr h
  have hS : va_S A s.heap s.heap [] := va_S.rf
  have hl := lv_entry ([.ref h0, .int p0, .int p1]) (n := 3) (Nat.le_of_ble_eq_true rfl)
  rw [lg_entry_eq]
  generalize (lg_sl ([.ref h0, .int p0, .int p1]) ++ List.replicate (3 - (lg_sl ([.ref h0, .int p0, .int p1])).length) Slot.unset).toArray = ls at hl ⊢
  have hl : lv_has ls 3 [(0, .ref h0), (1, .int p0), (2, .int p1)] := hl
  refine lv_aload_n hx hb dX12_seat_0 rfl (lv_at hl 0 rfl) ?_
  refine lv_iload_n hx hb dX12_seat_1 rfl (lv_at hl 1 rfl) ?_
  have hPc := hP.sub (ws' := [(h0, .inr (12, [.int 0, .ref m1, .ref m2, .int 0, .ref m4, .ref m5, .ref m6, .ref m7, .ref m8, .int 0, .ref m10, .ref m11, .ref m12, .ref m13, .ref m14, .ref m15, .ref m16, .ref m17, .ref m18, .ref m19, .ref m20, .ref m21, .int 0, .ref m23, .ref m24, .ref m25, .ref m26, .ref m27, .ref m28, .int 0, .int 0, .ref m31, .int 0, .ref m33, .int 0, .ref m35, .int (-1), .ref m37, .int 0, .ref m39, .ref m40, .ref m41, .ref m42, .ref m43, .int 0, .int 0, .int 0, .int 0, .int 0, .int 0, .int 0, .int 0, .ref m52, .int 0, .ref m54, .int 0, .ref m56, .ref m57, .ref m58]))]) [0] rfl
  have hDc := hD.sub (ws' := [(h0, .inr (12, [.int 0, .ref m1, .ref m2, .int 0, .ref m4, .ref m5, .ref m6, .ref m7, .ref m8, .int 0, .ref m10, .ref m11, .ref m12, .ref m13, .ref m14, .ref m15, .ref m16, .ref m17, .ref m18, .ref m19, .ref m20, .ref m21, .int 0, .ref m23, .ref m24, .ref m25, .ref m26, .ref m27, .ref m28, .int 0, .int 0, .ref m31, .int 0, .ref m33, .int 0, .ref m35, .int (-1), .ref m37, .int 0, .ref m39, .ref m40, .ref m41, .ref m42, .ref m43, .int 0, .int 0, .int 0, .int 0, .int 0, .int 0, .int 0, .int 0, .ref m52, .int 0, .ref m54, .int 0, .ref m56, .ref m57, .ref m58]))]) [0] (by decide) rfl
  refine vz_callSi (va_runV (As := [.int p0]) (rest := []) ⟨hx, hb, hml, hown, hts⟩ (c_M_isTable l dC dI cy h0 m1 m2 m4 m5 m6 m7 m8 m10 m11 m12 m13 m14 m15 m16 m17 m18 m19 m20 m21 m23 m24 m25 m26 m27 m28 m31 m33 m35 m37 m39 m40 m41 m42 m43 m52 m54 m56 m57 m58 p0 s.heap.size) (cwV 1 hts gX12_seat_X12_isTable rfl rfl rfl (by decide +kernel) ⟨Nat.le_of_ble_eq_true rfl, Nat.le_of_ble_eq_true rfl⟩) (wp_V hK hN hPc hDc (va_recv hK hPc (ci := 12) (q0 := 0) rfl rfl)) rfl rfl hl.1 rfl (lv_room (Nat.le_of_ble_eq_true rfl)) dX12_seat_2 ⟨Nat.le_of_ble_eq_true rfl, Nat.le_of_ble_eq_true rfl⟩) (fun r_1 hw_1 => ?_)
  obtain rfl : r_1 = 0 := hw_1
  refine lv_if_eq (tgt := 19) hx hb dX12_seat_5 (by decide) (fun _ => ?_) (fun c_2 => absurd c_2 (by decide))
  refine lv_iconst (v := (-1)) hx hb dX12_seat_19 (by decide) ?_
  refine lv_goto (tgt := 56) hx hb dX12_seat_20 (by decide) ?_
  exact W.iret (v := (-1)) hx hb hr (fun t ht hW => ⟨⟨(-1), (), rfl, (by first | rfl | (exfalso; omega)), trivial⟩, hS.F ht⟩) hS.2.2 dX12_seat_56
set_option maxHeartbeats 4000000 in
set_option maxRecDepth 100000 in
theorem c_M_picked (l : Launch) (dC : Nat → ClassId) (dI : Nat → Nat → Nat) (cy : Nat → ClassId) (h0 : Nat) (m1 : Nat) (m2 : Nat) (m4 : Nat) (m5 : Nat) (m6 : Nat) (m7 : Nat) (m8 : Nat) (m10 : Nat) (m11 : Nat) (m12 : Nat) (m13 : Nat) (m14 : Nat) (m15 : Nat) (m16 : Nat) (m17 : Nat) (m18 : Nat) (m19 : Nat) (m20 : Nat) (m21 : Nat) (m23 : Nat) (m24 : Nat) (m25 : Nat) (m26 : Nat) (m27 : Nat) (m28 : Nat) (m31 : Nat) (m33 : Nat) (m35 : Nat) (m37 : Nat) (m39 : Nat) (m40 : Nat) (m41 : Nat) (m42 : Nat) (m43 : Nat) (m52 : Nat) (m54 : Nat) (m56 : Nat) (m57 : Nat) (m58 : Nat) (p0 : Int32) (p1 : Int32) (p2 : Int32) (sz : Nat)  : Met l yX12_picked wsX12_picked ({ frames := 3, cells := 0, slots := 0, locals := 66 }) (va_Pc [.ref h0, .int p0, .int p1, .int p2] (wPre (dC, dI) cy [(h0, .inr (12, [.int 0, .ref m1, .ref m2, .int 0, .ref m4, .ref m5, .ref m6, .ref m7, .ref m8, .int 0, .ref m10, .ref m11, .ref m12, .ref m13, .ref m14, .ref m15, .ref m16, .ref m17, .ref m18, .ref m19, .ref m20, .ref m21, .int 0, .ref m23, .ref m24, .ref m25, .ref m26, .ref m27, .ref m28, .int 0, .int 0, .ref m31, .int 0, .ref m33, .int 0, .ref m35, .int (-1), .ref m37, .int 0, .ref m39, .ref m40, .ref m41, .ref m42, .ref m43, .int 0, .int 0, .int 0, .int 0, .int 0, .int 0, .int 0, .int 0, .ref m52, .int 0, .ref m54, .int 0, .ref m56, .ref m57, .ref m58]))] sz)) (va_Qi (fun (r : Int32) (u : Unit) => r = -1) (fun (u : Unit) t => True) (va_A [(h0, .inr (12, [.int 0, .ref m1, .ref m2, .int 0, .ref m4, .ref m5, .ref m6, .ref m7, .ref m8, .int 0, .ref m10, .ref m11, .ref m12, .ref m13, .ref m14, .ref m15, .ref m16, .ref m17, .ref m18, .ref m19, .ref m20, .ref m21, .int 0, .ref m23, .ref m24, .ref m25, .ref m26, .ref m27, .ref m28, .int 0, .int 0, .ref m31, .int 0, .ref m33, .int 0, .ref m35, .int (-1), .ref m37, .int 0, .ref m39, .ref m40, .ref m41, .ref m42, .ref m43, .int 0, .int 0, .int 0, .int 0, .int 0, .int 0, .int 0, .int 0, .ref m52, .int 0, .ref m54, .int 0, .ref m56, .ref m57, .ref m58]))] sz)) 0 0 (va_A [(h0, .inr (12, [.int 0, .ref m1, .ref m2, .int 0, .ref m4, .ref m5, .ref m6, .ref m7, .ref m8, .int 0, .ref m10, .ref m11, .ref m12, .ref m13, .ref m14, .ref m15, .ref m16, .ref m17, .ref m18, .ref m19, .ref m20, .ref m21, .int 0, .ref m23, .ref m24, .ref m25, .ref m26, .ref m27, .ref m28, .int 0, .int 0, .ref m31, .int 0, .ref m33, .int 0, .ref m35, .int (-1), .ref m37, .int 0, .ref m39, .ref m40, .ref m41, .ref m42, .ref m43, .int 0, .int 0, .int 0, .int 0, .int 0, .int 0, .int 0, .int 0, .ref m52, .int 0, .ref m54, .int 0, .ref m56, .ref m57, .ref m58]))] sz) := by
  refine Met.ofW (cc := cX12_picked) (maxL := 4) (ret := (some .int)) (by decide) rfl ?_
  intro p e s m args below meth c s₁ B hml hv
  obtain ⟨rfl, hsz, hP, hK, hD0, hN⟩ := hv
  have hx := B.exec
  have hb := B.bytes
  have hr := B.returns
  have hts := atoms_spec (ws := wsX12_picked) B.pre
  have hown : s.vm.findClass RX12 = some m.cls := findClass_of_methodNamed B.named
  have hlocks := B.notSynchronized
  subst hsz
  have hD := hD0.self (sz := s.heap.size)
  generalize hAe : va_A [(h0, .inr (12, [.int 0, .ref m1, .ref m2, .int 0, .ref m4, .ref m5, .ref m6, .ref m7, .ref m8, .int 0, .ref m10, .ref m11, .ref m12, .ref m13, .ref m14, .ref m15, .ref m16, .ref m17, .ref m18, .ref m19, .ref m20, .ref m21, .int 0, .ref m23, .ref m24, .ref m25, .ref m26, .ref m27, .ref m28, .int 0, .int 0, .ref m31, .int 0, .ref m33, .int 0, .ref m35, .int (-1), .ref m37, .int 0, .ref m39, .ref m40, .ref m41, .ref m42, .ref m43, .int 0, .int 0, .int 0, .int 0, .int 0, .int 0, .int 0, .int 0, .ref m52, .int 0, .ref m54, .int 0, .ref m56, .ref m57, .ref m58]))] s.heap.size = A at hD ⊢
  have hA : ∀ q : Nat, s.heap.size ≤ q → A q := fun q h => by rw [← hAe]; exact Or.inr h
  have hS : va_S A s.heap s.heap [] := va_S.rf
  have hl := lv_entry ([.ref h0, .int p0, .int p1, .int p2]) (n := 4) (Nat.le_of_ble_eq_true rfl)
  rw [lg_entry_eq]
  generalize (lg_sl ([.ref h0, .int p0, .int p1, .int p2]) ++ List.replicate (4 - (lg_sl ([.ref h0, .int p0, .int p1, .int p2])).length) Slot.unset).toArray = ls at hl ⊢
  have hl : lv_has ls 4 [(0, .ref h0), (1, .int p0), (2, .int p1), (3, .int p2)] := hl
  refine lv_aload_n hx hb dX12_picked_0 rfl (lv_at hl 0 rfl) ?_
  refine lv_iload_n hx hb dX12_picked_1 rfl (lv_at hl 1 rfl) ?_
  have hPc := hP.sub (ws' := [(h0, .inr (12, [.int 0, .ref m1, .ref m2, .int 0, .ref m4, .ref m5, .ref m6, .ref m7, .ref m8, .int 0, .ref m10, .ref m11, .ref m12, .ref m13, .ref m14, .ref m15, .ref m16, .ref m17, .ref m18, .ref m19, .ref m20, .ref m21, .int 0, .ref m23, .ref m24, .ref m25, .ref m26, .ref m27, .ref m28, .int 0, .int 0, .ref m31, .int 0, .ref m33, .int 0, .ref m35, .int (-1), .ref m37, .int 0, .ref m39, .ref m40, .ref m41, .ref m42, .ref m43, .int 0, .int 0, .int 0, .int 0, .int 0, .int 0, .int 0, .int 0, .ref m52, .int 0, .ref m54, .int 0, .ref m56, .ref m57, .ref m58]))]) [0] rfl
  have hDc := hD.sub (ws' := [(h0, .inr (12, [.int 0, .ref m1, .ref m2, .int 0, .ref m4, .ref m5, .ref m6, .ref m7, .ref m8, .int 0, .ref m10, .ref m11, .ref m12, .ref m13, .ref m14, .ref m15, .ref m16, .ref m17, .ref m18, .ref m19, .ref m20, .ref m21, .int 0, .ref m23, .ref m24, .ref m25, .ref m26, .ref m27, .ref m28, .int 0, .int 0, .ref m31, .int 0, .ref m33, .int 0, .ref m35, .int (-1), .ref m37, .int 0, .ref m39, .ref m40, .ref m41, .ref m42, .ref m43, .int 0, .int 0, .int 0, .int 0, .int 0, .int 0, .int 0, .int 0, .ref m52, .int 0, .ref m54, .int 0, .ref m56, .ref m57, .ref m58]))]) [0] (by decide) rfl
  refine vz_callSi (va_runV (As := [.int p0]) (rest := []) ⟨hx, hb, hml, hown, hts⟩ (c_M_isTable l dC dI cy h0 m1 m2 m4 m5 m6 m7 m8 m10 m11 m12 m13 m14 m15 m16 m17 m18 m19 m20 m21 m23 m24 m25 m26 m27 m28 m31 m33 m35 m37 m39 m40 m41 m42 m43 m52 m54 m56 m57 m58 p0 s.heap.size) (cwV 1 hts gX12_picked_X12_isTable rfl rfl rfl (by decide +kernel) ⟨Nat.le_of_ble_eq_true rfl, Nat.le_of_ble_eq_true rfl⟩) (wp_V hK hN hPc hDc (va_recv hK hPc (ci := 12) (q0 := 0) rfl rfl)) rfl rfl hl.1 rfl (lv_room (Nat.le_of_ble_eq_true rfl)) dX12_picked_2 ⟨Nat.le_of_ble_eq_true rfl, Nat.le_of_ble_eq_true rfl⟩) (fun r_1 hw_1 => ?_)
  obtain rfl : r_1 = 0 := hw_1
  refine lv_if_eq (tgt := 19) hx hb dX12_picked_5 (by decide) (fun _ => ?_) (fun c_2 => absurd c_2 (by decide))
  refine lv_iconst (v := (-1)) hx hb dX12_picked_19 (by decide) ?_
  change W _ _ _ _ _ _ _ _ _ _ _ _ _ _ _ (F0 m 20 ls [.int (-1)])
  exact W.iret (v := (-1)) hx hb hr (fun t ht hW => ⟨⟨(-1), (), rfl, (by first | rfl | (exfalso; omega)), trivial⟩, hS.F ht⟩) hS.2.2 dX12_picked_20
set_option maxHeartbeats 4000000 in
set_option maxRecDepth 100000 in
theorem c_M_keeperOf (l : Launch) (dC : Nat → ClassId) (dI : Nat → Nat → Nat) (cy : Nat → ClassId) (h0 : Nat) (m1 : Nat) (m2 : Nat) (m4 : Nat) (m5 : Nat) (m6 : Nat) (m7 : Nat) (m8 : Nat) (m10 : Nat) (m11 : Nat) (m12 : Nat) (m13 : Nat) (m14 : Nat) (m15 : Nat) (m16 : Nat) (m17 : Nat) (m18 : Nat) (m19 : Nat) (m20 : Nat) (m21 : Nat) (m23 : Nat) (m24 : Nat) (m25 : Nat) (m26 : Nat) (m27 : Nat) (m28 : Nat) (m31 : Nat) (m33 : Nat) (m35 : Nat) (m37 : Nat) (m39 : Nat) (m40 : Nat) (m41 : Nat) (m42 : Nat) (m43 : Nat) (m52 : Nat) (m54 : Nat) (m56 : Nat) (m57 : Nat) (m58 : Nat) (p0 : Int32) (p1 : Int32) (p2 : Int32) (sz : Nat)  : Met l yX12_keeperOf wsX12_keeperOf ({ frames := 3, cells := 0, slots := 0, locals := 66 }) (va_Pc [.ref h0, .int p0, .int p1, .int p2] (wPre (dC, dI) cy [(h0, .inr (12, [.int 0, .ref m1, .ref m2, .int 0, .ref m4, .ref m5, .ref m6, .ref m7, .ref m8, .int 0, .ref m10, .ref m11, .ref m12, .ref m13, .ref m14, .ref m15, .ref m16, .ref m17, .ref m18, .ref m19, .ref m20, .ref m21, .int 0, .ref m23, .ref m24, .ref m25, .ref m26, .ref m27, .ref m28, .int 0, .int 0, .ref m31, .int 0, .ref m33, .int 0, .ref m35, .int (-1), .ref m37, .int 0, .ref m39, .ref m40, .ref m41, .ref m42, .ref m43, .int 0, .int 0, .int 0, .int 0, .int 0, .int 0, .int 0, .int 0, .ref m52, .int 0, .ref m54, .int 0, .ref m56, .ref m57, .ref m58]))] sz)) (va_Qi (fun (r : Int32) (u : Unit) => r = -1) (fun (u : Unit) t => True) (va_A [(h0, .inr (12, [.int 0, .ref m1, .ref m2, .int 0, .ref m4, .ref m5, .ref m6, .ref m7, .ref m8, .int 0, .ref m10, .ref m11, .ref m12, .ref m13, .ref m14, .ref m15, .ref m16, .ref m17, .ref m18, .ref m19, .ref m20, .ref m21, .int 0, .ref m23, .ref m24, .ref m25, .ref m26, .ref m27, .ref m28, .int 0, .int 0, .ref m31, .int 0, .ref m33, .int 0, .ref m35, .int (-1), .ref m37, .int 0, .ref m39, .ref m40, .ref m41, .ref m42, .ref m43, .int 0, .int 0, .int 0, .int 0, .int 0, .int 0, .int 0, .int 0, .ref m52, .int 0, .ref m54, .int 0, .ref m56, .ref m57, .ref m58]))] sz)) 0 0 (va_A [(h0, .inr (12, [.int 0, .ref m1, .ref m2, .int 0, .ref m4, .ref m5, .ref m6, .ref m7, .ref m8, .int 0, .ref m10, .ref m11, .ref m12, .ref m13, .ref m14, .ref m15, .ref m16, .ref m17, .ref m18, .ref m19, .ref m20, .ref m21, .int 0, .ref m23, .ref m24, .ref m25, .ref m26, .ref m27, .ref m28, .int 0, .int 0, .ref m31, .int 0, .ref m33, .int 0, .ref m35, .int (-1), .ref m37, .int 0, .ref m39, .ref m40, .ref m41, .ref m42, .ref m43, .int 0, .int 0, .int 0, .int 0, .int 0, .int 0, .int 0, .int 0, .ref m52, .int 0, .ref m54, .int 0, .ref m56, .ref m57, .ref m58]))] sz) := by
  refine Met.ofW (cc := cX12_keeperOf) (maxL := 4) (ret := (some .int)) (by decide) rfl ?_
  intro p e s m args below meth c s₁ B hml hv
  obtain ⟨rfl, hsz, hP, hK, hD0, hN⟩ := hv
  have hx := B.exec
  have hb := B.bytes
  have hr := B.returns
  have hts := atoms_spec (ws := wsX12_keeperOf) B.pre
  have hown : s.vm.findClass RX12 = some m.cls := findClass_of_methodNamed B.named
  have hlocks := B.notSynchronized
  subst hsz
  have hD := hD0.self (sz := s.heap.size)
  generalize hAe : va_A [(h0, .inr (12, [.int 0, .ref m1, .ref m2, .int 0, .ref m4, .ref m5, .ref m6, .ref m7, .ref m8, .int 0, .ref m10, .ref m11, .ref m12, .ref m13, .ref m14, .ref m15, .ref m16, .ref m17, .ref m18, .ref m19, .ref m20, .ref m21, .int 0, .ref m23, .ref m24, .ref m25, .ref m26, .ref m27, .ref m28, .int 0, .int 0, .ref m31, .int 0, .ref m33, .int 0, .ref m35, .int (-1), .ref m37, .int 0, .ref m39, .ref m40, .ref m41, .ref m42, .ref m43, .int 0, .int 0, .int 0, .int 0, .int 0, .int 0, .int 0, .int 0, .ref m52, .int 0, .ref m54, .int 0, .ref m56, .ref m57, .ref m58]))] s.heap.size = A at hD ⊢
  have hA : ∀ q : Nat, s.heap.size ≤ q → A q := fun q h => by rw [← hAe]; exact Or.inr h
  have hS : va_S A s.heap s.heap [] := va_S.rf
  have hl := lv_entry ([.ref h0, .int p0, .int p1, .int p2]) (n := 4) (Nat.le_of_ble_eq_true rfl)
  rw [lg_entry_eq]
  generalize (lg_sl ([.ref h0, .int p0, .int p1, .int p2]) ++ List.replicate (4 - (lg_sl ([.ref h0, .int p0, .int p1, .int p2])).length) Slot.unset).toArray = ls at hl ⊢
  have hl : lv_has ls 4 [(0, .ref h0), (1, .int p0), (2, .int p1), (3, .int p2)] := hl
  refine lv_aload_n hx hb dX12_keeperOf_0 rfl (lv_at hl 0 rfl) ?_
  refine lv_iload_n hx hb dX12_keeperOf_1 rfl (lv_at hl 1 rfl) ?_
  have hPc := hP.sub (ws' := [(h0, .inr (12, [.int 0, .ref m1, .ref m2, .int 0, .ref m4, .ref m5, .ref m6, .ref m7, .ref m8, .int 0, .ref m10, .ref m11, .ref m12, .ref m13, .ref m14, .ref m15, .ref m16, .ref m17, .ref m18, .ref m19, .ref m20, .ref m21, .int 0, .ref m23, .ref m24, .ref m25, .ref m26, .ref m27, .ref m28, .int 0, .int 0, .ref m31, .int 0, .ref m33, .int 0, .ref m35, .int (-1), .ref m37, .int 0, .ref m39, .ref m40, .ref m41, .ref m42, .ref m43, .int 0, .int 0, .int 0, .int 0, .int 0, .int 0, .int 0, .int 0, .ref m52, .int 0, .ref m54, .int 0, .ref m56, .ref m57, .ref m58]))]) [0] rfl
  have hDc := hD.sub (ws' := [(h0, .inr (12, [.int 0, .ref m1, .ref m2, .int 0, .ref m4, .ref m5, .ref m6, .ref m7, .ref m8, .int 0, .ref m10, .ref m11, .ref m12, .ref m13, .ref m14, .ref m15, .ref m16, .ref m17, .ref m18, .ref m19, .ref m20, .ref m21, .int 0, .ref m23, .ref m24, .ref m25, .ref m26, .ref m27, .ref m28, .int 0, .int 0, .ref m31, .int 0, .ref m33, .int 0, .ref m35, .int (-1), .ref m37, .int 0, .ref m39, .ref m40, .ref m41, .ref m42, .ref m43, .int 0, .int 0, .int 0, .int 0, .int 0, .int 0, .int 0, .int 0, .ref m52, .int 0, .ref m54, .int 0, .ref m56, .ref m57, .ref m58]))]) [0] (by decide) rfl
  refine vz_callSi (va_runV (As := [.int p0]) (rest := []) ⟨hx, hb, hml, hown, hts⟩ (c_M_isTable l dC dI cy h0 m1 m2 m4 m5 m6 m7 m8 m10 m11 m12 m13 m14 m15 m16 m17 m18 m19 m20 m21 m23 m24 m25 m26 m27 m28 m31 m33 m35 m37 m39 m40 m41 m42 m43 m52 m54 m56 m57 m58 p0 s.heap.size) (cwV 1 hts gX12_keeperOf_X12_isTable rfl rfl rfl (by decide +kernel) ⟨Nat.le_of_ble_eq_true rfl, Nat.le_of_ble_eq_true rfl⟩) (wp_V hK hN hPc hDc (va_recv hK hPc (ci := 12) (q0 := 0) rfl rfl)) rfl rfl hl.1 rfl (lv_room (Nat.le_of_ble_eq_true rfl)) dX12_keeperOf_2 ⟨Nat.le_of_ble_eq_true rfl, Nat.le_of_ble_eq_true rfl⟩) (fun r_1 hw_1 => ?_)
  obtain rfl : r_1 = 0 := hw_1
  change W _ _ _ _ _ _ _ _ _ _ _ _ _ _ _ (F0 m 5 ls [.int 0])
  refine lv_if_eq (tgt := 16) hx hb dX12_keeperOf_5 (by decide) (fun _ => ?_) (fun c_2 => absurd c_2 (by decide))
  refine lv_iconst (v := (-1)) hx hb dX12_keeperOf_16 (by decide) ?_
  exact W.iret (v := (-1)) hx hb hr (fun t ht hW => ⟨⟨(-1), (), rfl, (by first | rfl | (exfalso; omega)), trivial⟩, hS.F ht⟩) hS.2.2 dX12_keeperOf_17
set_option maxHeartbeats 4000000 in
set_option maxRecDepth 100000 in
theorem c_M_tooFew (l : Launch) (dC : Nat → ClassId) (dI : Nat → Nat → Nat) (cy : Nat → ClassId) (h0 : Nat) (m1 : Nat) (m2 : Nat) (m4 : Nat) (m5 : Nat) (m6 : Nat) (m7 : Nat) (m8 : Nat) (m10 : Nat) (m11 : Nat) (m12 : Nat) (m13 : Nat) (m14 : Nat) (m15 : Nat) (m16 : Nat) (m17 : Nat) (m18 : Nat) (m19 : Nat) (m20 : Nat) (m21 : Nat) (m23 : Nat) (m24 : Nat) (m25 : Nat) (m26 : Nat) (m27 : Nat) (m28 : Nat) (m31 : Nat) (m33 : Nat) (m35 : Nat) (m37 : Nat) (m39 : Nat) (m40 : Nat) (m41 : Nat) (m42 : Nat) (m43 : Nat) (m52 : Nat) (m54 : Nat) (m56 : Nat) (m57 : Nat) (m58 : Nat) (p0 : Int32) (sz : Nat)  : Met l yX12_tooFew wsX12_tooFew ({ frames := 3, cells := 0, slots := 0, locals := 66 }) (va_Pc [.ref h0, .int p0] (wPre (dC, dI) cy [(h0, .inr (12, [.int 0, .ref m1, .ref m2, .int 0, .ref m4, .ref m5, .ref m6, .ref m7, .ref m8, .int 0, .ref m10, .ref m11, .ref m12, .ref m13, .ref m14, .ref m15, .ref m16, .ref m17, .ref m18, .ref m19, .ref m20, .ref m21, .int 0, .ref m23, .ref m24, .ref m25, .ref m26, .ref m27, .ref m28, .int 0, .int 0, .ref m31, .int 0, .ref m33, .int 0, .ref m35, .int (-1), .ref m37, .int 0, .ref m39, .ref m40, .ref m41, .ref m42, .ref m43, .int 0, .int 0, .int 0, .int 0, .int 0, .int 0, .int 0, .int 0, .ref m52, .int 0, .ref m54, .int 0, .ref m56, .ref m57, .ref m58]))] sz)) (va_Qi (fun (r : Int32) (u : Unit) => r = -1) (fun (u : Unit) t => True) (va_A [(h0, .inr (12, [.int 0, .ref m1, .ref m2, .int 0, .ref m4, .ref m5, .ref m6, .ref m7, .ref m8, .int 0, .ref m10, .ref m11, .ref m12, .ref m13, .ref m14, .ref m15, .ref m16, .ref m17, .ref m18, .ref m19, .ref m20, .ref m21, .int 0, .ref m23, .ref m24, .ref m25, .ref m26, .ref m27, .ref m28, .int 0, .int 0, .ref m31, .int 0, .ref m33, .int 0, .ref m35, .int (-1), .ref m37, .int 0, .ref m39, .ref m40, .ref m41, .ref m42, .ref m43, .int 0, .int 0, .int 0, .int 0, .int 0, .int 0, .int 0, .int 0, .ref m52, .int 0, .ref m54, .int 0, .ref m56, .ref m57, .ref m58]))] sz)) 0 0 (va_A [(h0, .inr (12, [.int 0, .ref m1, .ref m2, .int 0, .ref m4, .ref m5, .ref m6, .ref m7, .ref m8, .int 0, .ref m10, .ref m11, .ref m12, .ref m13, .ref m14, .ref m15, .ref m16, .ref m17, .ref m18, .ref m19, .ref m20, .ref m21, .int 0, .ref m23, .ref m24, .ref m25, .ref m26, .ref m27, .ref m28, .int 0, .int 0, .ref m31, .int 0, .ref m33, .int 0, .ref m35, .int (-1), .ref m37, .int 0, .ref m39, .ref m40, .ref m41, .ref m42, .ref m43, .int 0, .int 0, .int 0, .int 0, .int 0, .int 0, .int 0, .int 0, .ref m52, .int 0, .ref m54, .int 0, .ref m56, .ref m57, .ref m58]))] sz) := by
  refine Met.ofW (cc := cX12_tooFew) (maxL := 4) (ret := (some .int)) (by decide) rfl ?_
  intro p e s m args below meth c s₁ B hml hv
  obtain ⟨rfl, hsz, hP, hK, hD0, hN⟩ := hv
  have hx := B.exec
  have hb := B.bytes
  have hr := B.returns
  have hts := atoms_spec (ws := wsX12_tooFew) B.pre
  have hown : s.vm.findClass RX12 = some m.cls := findClass_of_methodNamed B.named
  have hlocks := B.notSynchronized
  subst hsz
  have hD := hD0.self (sz := s.heap.size)
  generalize hAe : va_A [(h0, .inr (12, [.int 0, .ref m1, .ref m2, .int 0, .ref m4, .ref m5, .ref m6, .ref m7, .ref m8, .int 0, .ref m10, .ref m11, .ref m12, .ref m13, .ref m14, .ref m15, .ref m16, .ref m17, .ref m18, .ref m19, .ref m20, .ref m21, .int 0, .ref m23, .ref m24, .ref m25, .ref m26, .ref m27, .ref m28, .int 0, .int 0, .ref m31, .int 0, .ref m33, .int 0, .ref m35, .int (-1), .ref m37, .int 0, .ref m39, .ref m40, .ref m41, .ref m42, .ref m43, .int 0, .int 0, .int 0, .int 0, .int 0, .int 0, .int 0, .int 0, .ref m52, .int 0, .ref m54, .int 0, .ref m56, .ref m57, .ref m58]))] s.heap.size = A at hD ⊢
  have hA : ∀ q : Nat, s.heap.size ≤ q → A q := fun q h => by rw [← hAe]; exact Or.inr h
  have hS : va_S A s.heap s.heap [] := va_S.rf
  have hl := lv_entry ([.ref h0, .int p0]) (n := 4) (Nat.le_of_ble_eq_true rfl)
  rw [lg_entry_eq]
  generalize (lg_sl ([.ref h0, .int p0]) ++ List.replicate (4 - (lg_sl ([.ref h0, .int p0])).length) Slot.unset).toArray = ls at hl ⊢
  have hl : lv_has ls 4 [(0, .ref h0), (1, .int p0)] := hl
  refine lv_aload_n hx hb dX12_tooFew_0 rfl (lv_at hl 0 rfl) ?_
  change W _ _ _ _ _ _ _ _ _ _ _ _ _ _ _ (F0 m 1 ls [.ref h0])
  refine lv_iload_n hx hb dX12_tooFew_1 rfl (lv_at hl 1 rfl) ?_
  have hPc := hP.sub (ws' := [(h0, .inr (12, [.int 0, .ref m1, .ref m2, .int 0, .ref m4, .ref m5, .ref m6, .ref m7, .ref m8, .int 0, .ref m10, .ref m11, .ref m12, .ref m13, .ref m14, .ref m15, .ref m16, .ref m17, .ref m18, .ref m19, .ref m20, .ref m21, .int 0, .ref m23, .ref m24, .ref m25, .ref m26, .ref m27, .ref m28, .int 0, .int 0, .ref m31, .int 0, .ref m33, .int 0, .ref m35, .int (-1), .ref m37, .int 0, .ref m39, .ref m40, .ref m41, .ref m42, .ref m43, .int 0, .int 0, .int 0, .int 0, .int 0, .int 0, .int 0, .int 0, .ref m52, .int 0, .ref m54, .int 0, .ref m56, .ref m57, .ref m58]))]) [0] rfl
  have hDc := hD.sub (ws' := [(h0, .inr (12, [.int 0, .ref m1, .ref m2, .int 0, .ref m4, .ref m5, .ref m6, .ref m7, .ref m8, .int 0, .ref m10, .ref m11, .ref m12, .ref m13, .ref m14, .ref m15, .ref m16, .ref m17, .ref m18, .ref m19, .ref m20, .ref m21, .int 0, .ref m23, .ref m24, .ref m25, .ref m26, .ref m27, .ref m28, .int 0, .int 0, .ref m31, .int 0, .ref m33, .int 0, .ref m35, .int (-1), .ref m37, .int 0, .ref m39, .ref m40, .ref m41, .ref m42, .ref m43, .int 0, .int 0, .int 0, .int 0, .int 0, .int 0, .int 0, .int 0, .ref m52, .int 0, .ref m54, .int 0, .ref m56, .ref m57, .ref m58]))]) [0] (by decide) rfl
  refine vz_callSi (va_runV (As := [.int p0]) (rest := []) ⟨hx, hb, hml, hown, hts⟩ (c_M_isTable l dC dI cy h0 m1 m2 m4 m5 m6 m7 m8 m10 m11 m12 m13 m14 m15 m16 m17 m18 m19 m20 m21 m23 m24 m25 m26 m27 m28 m31 m33 m35 m37 m39 m40 m41 m42 m43 m52 m54 m56 m57 m58 p0 s.heap.size) (cwV 1 hts gX12_tooFew_X12_isTable rfl rfl rfl (by decide +kernel) ⟨Nat.le_of_ble_eq_true rfl, Nat.le_of_ble_eq_true rfl⟩) (wp_V hK hN hPc hDc (va_recv hK hPc (ci := 12) (q0 := 0) rfl rfl)) rfl rfl hl.1 rfl (lv_room (Nat.le_of_ble_eq_true rfl)) dX12_tooFew_2 ⟨Nat.le_of_ble_eq_true rfl, Nat.le_of_ble_eq_true rfl⟩) (fun r_1 hw_1 => ?_)
  obtain rfl : r_1 = 0 := hw_1
  refine lv_if_ne (tgt := 10) hx hb dX12_tooFew_5 (by decide) (fun c_2 => absurd c_2 (by decide)) (fun _ => ?_)
  refine lv_iconst (v := (-1)) hx hb dX12_tooFew_8 (by decide) ?_
  exact W.iret (v := (-1)) hx hb hr (fun t ht hW => ⟨⟨(-1), (), rfl, (by first | rfl | (exfalso; omega)), trivial⟩, hS.F ht⟩) hS.2.2 dX12_tooFew_9
set_option maxHeartbeats 4000000 in
set_option maxRecDepth 100000 in
theorem c_M_share (l : Launch) (dC : Nat → ClassId) (dI : Nat → Nat → Nat) (cy : Nat → ClassId) (h0 : Nat) (m1 : Nat) (m2 : Nat) (m4 : Nat) (m5 : Nat) (m6 : Nat) (m7 : Nat) (m8 : Nat) (m10 : Nat) (m11 : Nat) (m12 : Nat) (m13 : Nat) (m14 : Nat) (m15 : Nat) (m16 : Nat) (m17 : Nat) (m18 : Nat) (m19 : Nat) (m20 : Nat) (m21 : Nat) (m23 : Nat) (m24 : Nat) (m25 : Nat) (m26 : Nat) (m27 : Nat) (m28 : Nat) (m31 : Nat) (m33 : Nat) (m35 : Nat) (m37 : Nat) (m39 : Nat) (m40 : Nat) (m41 : Nat) (m42 : Nat) (m43 : Nat) (m52 : Nat) (m54 : Nat) (m56 : Nat) (m57 : Nat) (m58 : Nat) (p0 : Int32) (p1 : Int32) (p2 : Int32) (sz : Nat)  : Met l yX12_share wsX12_share ({ frames := 3, cells := 0, slots := 0, locals := 66 }) (va_Pc [.ref h0, .int p0, .int p1, .int p2] (wPre (dC, dI) cy [(h0, .inr (12, [.int 0, .ref m1, .ref m2, .int 0, .ref m4, .ref m5, .ref m6, .ref m7, .ref m8, .int 0, .ref m10, .ref m11, .ref m12, .ref m13, .ref m14, .ref m15, .ref m16, .ref m17, .ref m18, .ref m19, .ref m20, .ref m21, .int 0, .ref m23, .ref m24, .ref m25, .ref m26, .ref m27, .ref m28, .int 0, .int 0, .ref m31, .int 0, .ref m33, .int 0, .ref m35, .int (-1), .ref m37, .int 0, .ref m39, .ref m40, .ref m41, .ref m42, .ref m43, .int 0, .int 0, .int 0, .int 0, .int 0, .int 0, .int 0, .int 0, .ref m52, .int 0, .ref m54, .int 0, .ref m56, .ref m57, .ref m58]))] sz)) (va_Qi (fun (r : Int32) (u : Unit) => r = -1) (fun (u : Unit) t => True) (va_A [(h0, .inr (12, [.int 0, .ref m1, .ref m2, .int 0, .ref m4, .ref m5, .ref m6, .ref m7, .ref m8, .int 0, .ref m10, .ref m11, .ref m12, .ref m13, .ref m14, .ref m15, .ref m16, .ref m17, .ref m18, .ref m19, .ref m20, .ref m21, .int 0, .ref m23, .ref m24, .ref m25, .ref m26, .ref m27, .ref m28, .int 0, .int 0, .ref m31, .int 0, .ref m33, .int 0, .ref m35, .int (-1), .ref m37, .int 0, .ref m39, .ref m40, .ref m41, .ref m42, .ref m43, .int 0, .int 0, .int 0, .int 0, .int 0, .int 0, .int 0, .int 0, .ref m52, .int 0, .ref m54, .int 0, .ref m56, .ref m57, .ref m58]))] sz)) 0 0 (va_A [(h0, .inr (12, [.int 0, .ref m1, .ref m2, .int 0, .ref m4, .ref m5, .ref m6, .ref m7, .ref m8, .int 0, .ref m10, .ref m11, .ref m12, .ref m13, .ref m14, .ref m15, .ref m16, .ref m17, .ref m18, .ref m19, .ref m20, .ref m21, .int 0, .ref m23, .ref m24, .ref m25, .ref m26, .ref m27, .ref m28, .int 0, .int 0, .ref m31, .int 0, .ref m33, .int 0, .ref m35, .int (-1), .ref m37, .int 0, .ref m39, .ref m40, .ref m41, .ref m42, .ref m43, .int 0, .int 0, .int 0, .int 0, .int 0, .int 0, .int 0, .int 0, .ref m52, .int 0, .ref m54, .int 0, .ref m56, .ref m57, .ref m58]))] sz) := by
  refine Met.ofW (cc := cX12_share) (maxL := 4) (ret := (some .int)) (by decide) rfl ?_
  intro p e s m args below meth c s₁ B hml hv
  obtain ⟨rfl, hsz, hP, hK, hD0, hN⟩ := hv
  have hx := B.exec
  have hb := B.bytes
  have hr := B.returns
  have hts := atoms_spec (ws := wsX12_share) B.pre
  have hown : s.vm.findClass RX12 = some m.cls := findClass_of_methodNamed B.named
  have hlocks := B.notSynchronized
  subst hsz
  have hD := hD0.self (sz := s.heap.size)
  generalize hAe : va_A [(h0, .inr (12, [.int 0, .ref m1, .ref m2, .int 0, .ref m4, .ref m5, .ref m6, .ref m7, .ref m8, .int 0, .ref m10, .ref m11, .ref m12, .ref m13, .ref m14, .ref m15, .ref m16, .ref m17, .ref m18, .ref m19, .ref m20, .ref m21, .int 0, .ref m23, .ref m24, .ref m25, .ref m26, .ref m27, .ref m28, .int 0, .int 0, .ref m31, .int 0, .ref m33, .int 0, .ref m35, .int (-1), .ref m37, .int 0, .ref m39, .ref m40, .ref m41, .ref m42, .ref m43, .int 0, .int 0, .int 0, .int 0, .int 0, .int 0, .int 0, .int 0, .ref m52, .int 0, .ref m54, .int 0, .ref m56, .ref m57, .ref m58]))] s.heap.size = A at hD ⊢
  have hA : ∀ q : Nat, s.heap.size ≤ q → A q := fun q h => by rw [← hAe]; exact Or.inr h
  have hS : va_S A s.heap s.heap [] := va_S.rf
  have hl := lv_entry ([.ref h0, .int p0, .int p1, .int p2]) (n := 4) (Nat.le_of_ble_eq_true rfl)
  rw [lg_entry_eq]
  generalize (lg_sl ([.ref h0, .int p0, .int p1, .int p2]) ++ List.replicate (4 - (lg_sl ([.ref h0, .int p0, .int p1, .int p2])).length) Slot.unset).toArray = ls at hl ⊢
  have hl : lv_has ls 4 [(0, .ref h0), (1, .int p0), (2, .int p1), (3, .int p2)] := hl
  refine lv_aload_n hx hb dX12_share_0 rfl (lv_at hl 0 rfl) ?_
  refine lv_iload_n hx hb dX12_share_1 rfl (lv_at hl 1 rfl) ?_
  have hPc := hP.sub (ws' := [(h0, .inr (12, [.int 0, .ref m1, .ref m2, .int 0, .ref m4, .ref m5, .ref m6, .ref m7, .ref m8, .int 0, .ref m10, .ref m11, .ref m12, .ref m13, .ref m14, .ref m15, .ref m16, .ref m17, .ref m18, .ref m19, .ref m20, .ref m21, .int 0, .ref m23, .ref m24, .ref m25, .ref m26, .ref m27, .ref m28, .int 0, .int 0, .ref m31, .int 0, .ref m33, .int 0, .ref m35, .int (-1), .ref m37, .int 0, .ref m39, .ref m40, .ref m41, .ref m42, .ref m43, .int 0, .int 0, .int 0, .int 0, .int 0, .int 0, .int 0, .int 0, .ref m52, .int 0, .ref m54, .int 0, .ref m56, .ref m57, .ref m58]))]) [0] rfl
  have hDc := hD.sub (ws' := [(h0, .inr (12, [.int 0, .ref m1, .ref m2, .int 0, .ref m4, .ref m5, .ref m6, .ref m7, .ref m8, .int 0, .ref m10, .ref m11, .ref m12, .ref m13, .ref m14, .ref m15, .ref m16, .ref m17, .ref m18, .ref m19, .ref m20, .ref m21, .int 0, .ref m23, .ref m24, .ref m25, .ref m26, .ref m27, .ref m28, .int 0, .int 0, .ref m31, .int 0, .ref m33, .int 0, .ref m35, .int (-1), .ref m37, .int 0, .ref m39, .ref m40, .ref m41, .ref m42, .ref m43, .int 0, .int 0, .int 0, .int 0, .int 0, .int 0, .int 0, .int 0, .ref m52, .int 0, .ref m54, .int 0, .ref m56, .ref m57, .ref m58]))]) [0] (by decide) rfl
  refine vz_callSi (va_runV (As := [.int p0]) (rest := []) ⟨hx, hb, hml, hown, hts⟩ (c_M_isTable l dC dI cy h0 m1 m2 m4 m5 m6 m7 m8 m10 m11 m12 m13 m14 m15 m16 m17 m18 m19 m20 m21 m23 m24 m25 m26 m27 m28 m31 m33 m35 m37 m39 m40 m41 m42 m43 m52 m54 m56 m57 m58 p0 s.heap.size) (cwV 1 hts gX12_share_X12_isTable rfl rfl rfl (by decide +kernel) ⟨Nat.le_of_ble_eq_true rfl, Nat.le_of_ble_eq_true rfl⟩) (wp_V hK hN hPc hDc (va_recv hK hPc (ci := 12) (q0 := 0) rfl rfl)) rfl rfl hl.1 rfl (lv_room (Nat.le_of_ble_eq_true rfl)) dX12_share_2 ⟨Nat.le_of_ble_eq_true rfl, Nat.le_of_ble_eq_true rfl⟩) (fun r_1 hw_1 => ?_)
  obtain rfl : r_1 = 0 := hw_1
  refine lv_if_eq (tgt := 25) hx hb dX12_share_5 (by decide) (fun _ => ?_) (fun c_2 => absurd c_2 (by decide))
  refine lv_iconst (v := (-1)) hx hb dX12_share_25 (by decide) ?_
  exact W.iret (v := (-1)) hx hb hr (fun t ht hW => ⟨⟨(-1), (), rfl, (by first | rfl | (exfalso; omega)), trivial⟩, hS.F ht⟩) hS.2.2 dX12_share_26
set_option maxHeartbeats 4000000 in
set_option maxRecDepth 100000 in
theorem c_M_moves (l : Launch) (dC : Nat → ClassId) (dI : Nat → Nat → Nat) (cy : Nat → ClassId) (h0 : Nat) (m1 : Nat) (m2 : Nat) (m4 : Nat) (m5 : Nat) (m6 : Nat) (m7 : Nat) (m8 : Nat) (m10 : Nat) (m11 : Nat) (m12 : Nat) (m13 : Nat) (m14 : Nat) (m15 : Nat) (m16 : Nat) (m17 : Nat) (m18 : Nat) (m19 : Nat) (m20 : Nat) (m21 : Nat) (m23 : Nat) (m24 : Nat) (m25 : Nat) (m26 : Nat) (m27 : Nat) (m28 : Nat) (m31 : Nat) (m33 : Nat) (m35 : Nat) (m37 : Nat) (m39 : Nat) (m40 : Nat) (m41 : Nat) (m42 : Nat) (m43 : Nat) (m52 : Nat) (m54 : Nat) (m56 : Nat) (m57 : Nat) (m58 : Nat) (p0 : Int32) (p1 : Int32) (p2 : Int32) (sz : Nat)  : Met l yX12_moves wsX12_moves ({ frames := 3, cells := 0, slots := 0, locals := 66 }) (va_Pc [.ref h0, .int p0, .int p1, .int p2] (wPre (dC, dI) cy [(h0, .inr (12, [.int 0, .ref m1, .ref m2, .int 0, .ref m4, .ref m5, .ref m6, .ref m7, .ref m8, .int 0, .ref m10, .ref m11, .ref m12, .ref m13, .ref m14, .ref m15, .ref m16, .ref m17, .ref m18, .ref m19, .ref m20, .ref m21, .int 0, .ref m23, .ref m24, .ref m25, .ref m26, .ref m27, .ref m28, .int 0, .int 0, .ref m31, .int 0, .ref m33, .int 0, .ref m35, .int (-1), .ref m37, .int 0, .ref m39, .ref m40, .ref m41, .ref m42, .ref m43, .int 0, .int 0, .int 0, .int 0, .int 0, .int 0, .int 0, .int 0, .ref m52, .int 0, .ref m54, .int 0, .ref m56, .ref m57, .ref m58]))] sz)) (va_Qi (fun (r : Int32) (u : Unit) => r = -1) (fun (u : Unit) t => True) (va_A [(h0, .inr (12, [.int 0, .ref m1, .ref m2, .int 0, .ref m4, .ref m5, .ref m6, .ref m7, .ref m8, .int 0, .ref m10, .ref m11, .ref m12, .ref m13, .ref m14, .ref m15, .ref m16, .ref m17, .ref m18, .ref m19, .ref m20, .ref m21, .int 0, .ref m23, .ref m24, .ref m25, .ref m26, .ref m27, .ref m28, .int 0, .int 0, .ref m31, .int 0, .ref m33, .int 0, .ref m35, .int (-1), .ref m37, .int 0, .ref m39, .ref m40, .ref m41, .ref m42, .ref m43, .int 0, .int 0, .int 0, .int 0, .int 0, .int 0, .int 0, .int 0, .ref m52, .int 0, .ref m54, .int 0, .ref m56, .ref m57, .ref m58]))] sz)) 0 0 (va_A [(h0, .inr (12, [.int 0, .ref m1, .ref m2, .int 0, .ref m4, .ref m5, .ref m6, .ref m7, .ref m8, .int 0, .ref m10, .ref m11, .ref m12, .ref m13, .ref m14, .ref m15, .ref m16, .ref m17, .ref m18, .ref m19, .ref m20, .ref m21, .int 0, .ref m23, .ref m24, .ref m25, .ref m26, .ref m27, .ref m28, .int 0, .int 0, .ref m31, .int 0, .ref m33, .int 0, .ref m35, .int (-1), .ref m37, .int 0, .ref m39, .ref m40, .ref m41, .ref m42, .ref m43, .int 0, .int 0, .int 0, .int 0, .int 0, .int 0, .int 0, .int 0, .ref m52, .int 0, .ref m54, .int 0, .ref m56, .ref m57, .ref m58]))] sz) := by
  refine Met.ofW (cc := cX12_moves) (maxL := 10) (ret := (some .int)) (by decide) rfl ?_
  intro p e s m args below meth c s₁ B hml hv
  obtain ⟨rfl, hsz, hP, hK, hD0, hN⟩ := hv
  have hx := B.exec
  have hb := B.bytes
  have hr := B.returns
  have hts := atoms_spec (ws := wsX12_moves) B.pre
  have hown : s.vm.findClass RX12 = some m.cls := findClass_of_methodNamed B.named
  have hlocks := B.notSynchronized
  subst hsz
  have hD := hD0.self (sz := s.heap.size)
  generalize hAe : va_A [(h0, .inr (12, [.int 0, .ref m1, .ref m2, .int 0, .ref m4, .ref m5, .ref m6, .ref m7, .ref m8, .int 0, .ref m10, .ref m11, .ref m12, .ref m13, .ref m14, .ref m15, .ref m16, .ref m17, .ref m18, .ref m19, .ref m20, .ref m21, .int 0, .ref m23, .ref m24, .ref m25, .ref m26, .ref m27, .ref m28, .int 0, .int 0, .ref m31, .int 0, .ref m33, .int 0, .ref m35, .int (-1), .ref m37, .int 0, .ref m39, .ref m40, .ref m41, .ref m42, .ref m43, .int 0, .int 0, .int 0, .int 0, .int 0, .int 0, .int 0, .int 0, .ref m52, .int 0, .ref m54, .int 0, .ref m56, .ref m57, .ref m58]))] s.heap.size = A at hD ⊢
  have hA : ∀ q : Nat, s.heap.size ≤ q → A q := fun q h => by rw [← hAe]; exact Or.inr h
  have hS : va_S A s.heap s.heap [] := va_S.rf
  have hl := lv_entry ([.ref h0, .int p0, .int p1, .int p2]) (n := 10) (Nat.le_of_ble_eq_true rfl)
  rw [lg_entry_eq]
  generalize (lg_sl ([.ref h0, .int p0, .int p1, .int p2]) ++ List.replicate (10 - (lg_sl ([.ref h0, .int p0, .int p1, .int p2])).length) Slot.unset).toArray = ls at hl ⊢
  have hl : lv_has ls 10 [(0, .ref h0), (1, .int p0), (2, .int p1), (3, .int p2)] := hl
  refine lv_aload_n hx hb dX12_moves_0 rfl (lv_at hl 0 rfl) ?_
  refine lv_iload_n hx hb dX12_moves_1 rfl (lv_at hl 1 rfl) ?_
  have hPc := hP.sub (ws' := [(h0, .inr (12, [.int 0, .ref m1, .ref m2, .int 0, .ref m4, .ref m5, .ref m6, .ref m7, .ref m8, .int 0, .ref m10, .ref m11, .ref m12, .ref m13, .ref m14, .ref m15, .ref m16, .ref m17, .ref m18, .ref m19, .ref m20, .ref m21, .int 0, .ref m23, .ref m24, .ref m25, .ref m26, .ref m27, .ref m28, .int 0, .int 0, .ref m31, .int 0, .ref m33, .int 0, .ref m35, .int (-1), .ref m37, .int 0, .ref m39, .ref m40, .ref m41, .ref m42, .ref m43, .int 0, .int 0, .int 0, .int 0, .int 0, .int 0, .int 0, .int 0, .ref m52, .int 0, .ref m54, .int 0, .ref m56, .ref m57, .ref m58]))]) [0] rfl
  have hDc := hD.sub (ws' := [(h0, .inr (12, [.int 0, .ref m1, .ref m2, .int 0, .ref m4, .ref m5, .ref m6, .ref m7, .ref m8, .int 0, .ref m10, .ref m11, .ref m12, .ref m13, .ref m14, .ref m15, .ref m16, .ref m17, .ref m18, .ref m19, .ref m20, .ref m21, .int 0, .ref m23, .ref m24, .ref m25, .ref m26, .ref m27, .ref m28, .int 0, .int 0, .ref m31, .int 0, .ref m33, .int 0, .ref m35, .int (-1), .ref m37, .int 0, .ref m39, .ref m40, .ref m41, .ref m42, .ref m43, .int 0, .int 0, .int 0, .int 0, .int 0, .int 0, .int 0, .int 0, .ref m52, .int 0, .ref m54, .int 0, .ref m56, .ref m57, .ref m58]))]) [0] (by decide) rfl
  refine vz_callSi (va_runV (As := [.int p0]) (rest := []) ⟨hx, hb, hml, hown, hts⟩ (c_M_isTable l dC dI cy h0 m1 m2 m4 m5 m6 m7 m8 m10 m11 m12 m13 m14 m15 m16 m17 m18 m19 m20 m21 m23 m24 m25 m26 m27 m28 m31 m33 m35 m37 m39 m40 m41 m42 m43 m52 m54 m56 m57 m58 p0 s.heap.size) (cwV 1 hts gX12_moves_X12_isTable rfl rfl rfl (by decide +kernel) ⟨Nat.le_of_ble_eq_true rfl, Nat.le_of_ble_eq_true rfl⟩) (wp_V hK hN hPc hDc (va_recv hK hPc (ci := 12) (q0 := 0) rfl rfl)) rfl rfl hl.1 rfl (lv_room (Nat.le_of_ble_eq_true rfl)) dX12_moves_2 ⟨Nat.le_of_ble_eq_true rfl, Nat.le_of_ble_eq_true rfl⟩) (fun r_1 hw_1 => ?_)
  obtain rfl : r_1 = 0 := hw_1
  refine lv_if_eq (tgt := 25) hx hb dX12_moves_5 (by decide) (fun _ => ?_) (fun c_2 => absurd c_2 (by decide))
  refine lv_iconst (v := (-1)) hx hb dX12_moves_25 (by decide) ?_
  change W _ _ _ _ _ _ _ _ _ _ _ _ _ _ _ (F0 m 26 ls [.int (-1)])
  exact W.iret (v := (-1)) hx hb hr (fun t ht hW => ⟨⟨(-1), (), rfl, (by first | rfl | (exfalso; omega)), trivial⟩, hS.F ht⟩) hS.2.2 dX12_moves_26
set_option maxHeartbeats 4000000 in
set_option maxRecDepth 100000 in
theorem c_M_mend (l : Launch) (dC : Nat → ClassId) (dI : Nat → Nat → Nat) (cy : Nat → ClassId) (h0 : Nat) (m1 : Nat) (m2 : Nat) (m4 : Nat) (m5 : Nat) (m6 : Nat) (m7 : Nat) (m8 : Nat) (m10 : Nat) (m11 : Nat) (m12 : Nat) (m13 : Nat) (m14 : Nat) (m15 : Nat) (m16 : Nat) (m17 : Nat) (m18 : Nat) (m19 : Nat) (m20 : Nat) (m21 : Nat) (m23 : Nat) (m24 : Nat) (m25 : Nat) (m26 : Nat) (m27 : Nat) (m28 : Nat) (m31 : Nat) (m33 : Nat) (m35 : Nat) (m37 : Nat) (m39 : Nat) (m40 : Nat) (m41 : Nat) (m42 : Nat) (m43 : Nat) (m52 : Nat) (m54 : Nat) (m56 : Nat) (m57 : Nat) (m58 : Nat) (p0 : Int32) (sz : Nat)  : Met l yX12_mend wsX12_mend ({ frames := 3, cells := 0, slots := 0, locals := 66 }) (va_Pc [.ref h0, .int p0] (wPre (dC, dI) cy [(h0, .inr (12, [.int 0, .ref m1, .ref m2, .int 0, .ref m4, .ref m5, .ref m6, .ref m7, .ref m8, .int 0, .ref m10, .ref m11, .ref m12, .ref m13, .ref m14, .ref m15, .ref m16, .ref m17, .ref m18, .ref m19, .ref m20, .ref m21, .int 0, .ref m23, .ref m24, .ref m25, .ref m26, .ref m27, .ref m28, .int 0, .int 0, .ref m31, .int 0, .ref m33, .int 0, .ref m35, .int (-1), .ref m37, .int 0, .ref m39, .ref m40, .ref m41, .ref m42, .ref m43, .int 0, .int 0, .int 0, .int 0, .int 0, .int 0, .int 0, .int 0, .ref m52, .int 0, .ref m54, .int 0, .ref m56, .ref m57, .ref m58]))] sz)) (va_Qi (fun (r : Int32) (u : Unit) => r = -1) (fun (u : Unit) t => True) (va_A [(h0, .inr (12, [.int 0, .ref m1, .ref m2, .int 0, .ref m4, .ref m5, .ref m6, .ref m7, .ref m8, .int 0, .ref m10, .ref m11, .ref m12, .ref m13, .ref m14, .ref m15, .ref m16, .ref m17, .ref m18, .ref m19, .ref m20, .ref m21, .int 0, .ref m23, .ref m24, .ref m25, .ref m26, .ref m27, .ref m28, .int 0, .int 0, .ref m31, .int 0, .ref m33, .int 0, .ref m35, .int (-1), .ref m37, .int 0, .ref m39, .ref m40, .ref m41, .ref m42, .ref m43, .int 0, .int 0, .int 0, .int 0, .int 0, .int 0, .int 0, .int 0, .ref m52, .int 0, .ref m54, .int 0, .ref m56, .ref m57, .ref m58]))] sz)) 0 0 (va_A [(h0, .inr (12, [.int 0, .ref m1, .ref m2, .int 0, .ref m4, .ref m5, .ref m6, .ref m7, .ref m8, .int 0, .ref m10, .ref m11, .ref m12, .ref m13, .ref m14, .ref m15, .ref m16, .ref m17, .ref m18, .ref m19, .ref m20, .ref m21, .int 0, .ref m23, .ref m24, .ref m25, .ref m26, .ref m27, .ref m28, .int 0, .int 0, .ref m31, .int 0, .ref m33, .int 0, .ref m35, .int (-1), .ref m37, .int 0, .ref m39, .ref m40, .ref m41, .ref m42, .ref m43, .int 0, .int 0, .int 0, .int 0, .int 0, .int 0, .int 0, .int 0, .ref m52, .int 0, .ref m54, .int 0, .ref m56, .ref m57, .ref m58]))] sz) := by
  refine Met.ofW (cc := cX12_mend) (maxL := 7) (ret := (some .int)) (by decide) rfl ?_
  intro p e s m args below meth c s₁ B hml hv
  obtain ⟨rfl, hsz, hP, hK, hD0, hN⟩ := hv
  have hx := B.exec
  have hb := B.bytes
  have hr := B.returns
  have hts := atoms_spec (ws := wsX12_mend) B.pre
  have hown : s.vm.findClass RX12 = some m.cls := findClass_of_methodNamed B.named
  have hlocks := B.notSynchronized
  subst hsz
  have hD := hD0.self (sz := s.heap.size)
  generalize hAe : va_A [(h0, .inr (12, [.int 0, .ref m1, .ref m2, .int 0, .ref m4, .ref m5, .ref m6, .ref m7, .ref m8, .int 0, .ref m10, .ref m11, .ref m12, .ref m13, .ref m14, .ref m15, .ref m16, .ref m17, .ref m18, .ref m19, .ref m20, .ref m21, .int 0, .ref m23, .ref m24, .ref m25, .ref m26, .ref m27, .ref m28, .int 0, .int 0, .ref m31, .int 0, .ref m33, .int 0, .ref m35, .int (-1), .ref m37, .int 0, .ref m39, .ref m40, .ref m41, .ref m42, .ref m43, .int 0, .int 0, .int 0, .int 0, .int 0, .int 0, .int 0, .int 0, .ref m52, .int 0, .ref m54, .int 0, .ref m56, .ref m57, .ref m58]))] s.heap.size = A at hD ⊢
  have hA : ∀ q : Nat, s.heap.size ≤ q → A q := fun q h => by rw [← hAe]; exact Or.inr h
  have hS : va_S A s.heap s.heap [] := va_S.rf
  have hl := lv_entry ([.ref h0, .int p0]) (n := 7) (Nat.le_of_ble_eq_true rfl)
  rw [lg_entry_eq]
  generalize (lg_sl ([.ref h0, .int p0]) ++ List.replicate (7 - (lg_sl ([.ref h0, .int p0])).length) Slot.unset).toArray = ls at hl ⊢
  have hl : lv_has ls 7 [(0, .ref h0), (1, .int p0)] := hl
  refine lv_aload_n hx hb dX12_mend_0 rfl (lv_at hl 0 rfl) ?_
  refine lv_iload_n hx hb dX12_mend_1 rfl (lv_at hl 1 rfl) ?_
  have hPc := hP.sub (ws' := [(h0, .inr (12, [.int 0, .ref m1, .ref m2, .int 0, .ref m4, .ref m5, .ref m6, .ref m7, .ref m8, .int 0, .ref m10, .ref m11, .ref m12, .ref m13, .ref m14, .ref m15, .ref m16, .ref m17, .ref m18, .ref m19, .ref m20, .ref m21, .int 0, .ref m23, .ref m24, .ref m25, .ref m26, .ref m27, .ref m28, .int 0, .int 0, .ref m31, .int 0, .ref m33, .int 0, .ref m35, .int (-1), .ref m37, .int 0, .ref m39, .ref m40, .ref m41, .ref m42, .ref m43, .int 0, .int 0, .int 0, .int 0, .int 0, .int 0, .int 0, .int 0, .ref m52, .int 0, .ref m54, .int 0, .ref m56, .ref m57, .ref m58]))]) [0] rfl
  have hDc := hD.sub (ws' := [(h0, .inr (12, [.int 0, .ref m1, .ref m2, .int 0, .ref m4, .ref m5, .ref m6, .ref m7, .ref m8, .int 0, .ref m10, .ref m11, .ref m12, .ref m13, .ref m14, .ref m15, .ref m16, .ref m17, .ref m18, .ref m19, .ref m20, .ref m21, .int 0, .ref m23, .ref m24, .ref m25, .ref m26, .ref m27, .ref m28, .int 0, .int 0, .ref m31, .int 0, .ref m33, .int 0, .ref m35, .int (-1), .ref m37, .int 0, .ref m39, .ref m40, .ref m41, .ref m42, .ref m43, .int 0, .int 0, .int 0, .int 0, .int 0, .int 0, .int 0, .int 0, .ref m52, .int 0, .ref m54, .int 0, .ref m56, .ref m57, .ref m58]))]) [0] (by decide) rfl
  refine vz_callSi (va_runV (As := [.int p0]) (rest := []) ⟨hx, hb, hml, hown, hts⟩ (c_M_isTable l dC dI cy h0 m1 m2 m4 m5 m6 m7 m8 m10 m11 m12 m13 m14 m15 m16 m17 m18 m19 m20 m21 m23 m24 m25 m26 m27 m28 m31 m33 m35 m37 m39 m40 m41 m42 m43 m52 m54 m56 m57 m58 p0 s.heap.size) (cwV 1 hts gX12_mend_X12_isTable rfl rfl rfl (by decide +kernel) ⟨Nat.le_of_ble_eq_true rfl, Nat.le_of_ble_eq_true rfl⟩) (wp_V hK hN hPc hDc (va_recv hK hPc (ci := 12) (q0 := 0) rfl rfl)) rfl rfl hl.1 rfl (lv_room (Nat.le_of_ble_eq_true rfl)) dX12_mend_2 ⟨Nat.le_of_ble_eq_true rfl, Nat.le_of_ble_eq_true rfl⟩) (fun r_1 hw_1 => ?_)
  obtain rfl : r_1 = 0 := hw_1
  change W _ _ _ _ _ _ _ _ _ _ _ _ _ _ _ (F0 m 5 ls [.int 0])
  refine lv_if_ne (tgt := 10) hx hb dX12_mend_5 (by decide) (fun c_2 => absurd c_2 (by decide)) (fun _ => ?_)
  refine lv_iconst (v := (-1)) hx hb dX12_mend_8 (by decide) ?_
  exact W.iret (v := (-1)) hx hb hr (fun t ht hW => ⟨⟨(-1), (), rfl, (by first | rfl | (exfalso; omega)), trivial⟩, hS.F ht⟩) hS.2.2 dX12_mend_9
set_option maxHeartbeats 4000000 in
set_option maxRecDepth 100000 in
theorem c_M_noon (l : Launch) (dC : Nat → ClassId) (dI : Nat → Nat → Nat) (cy : Nat → ClassId) (h0 : Nat) (m1 : Nat) (m2 : Nat) (m4 : Nat) (m5 : Nat) (m6 : Nat) (m7 : Nat) (m8 : Nat) (m10 : Nat) (m11 : Nat) (m12 : Nat) (m13 : Nat) (m14 : Nat) (m15 : Nat) (m16 : Nat) (m17 : Nat) (m18 : Nat) (m19 : Nat) (m20 : Nat) (m21 : Nat) (m23 : Nat) (m24 : Nat) (m25 : Nat) (m26 : Nat) (m27 : Nat) (m28 : Nat) (m31 : Nat) (m33 : Nat) (m35 : Nat) (m37 : Nat) (m39 : Nat) (m40 : Nat) (m41 : Nat) (m42 : Nat) (m43 : Nat) (m52 : Nat) (m54 : Nat) (m56 : Nat) (m57 : Nat) (m58 : Nat) (p0 : Int32) (p1 : Int32) (p2 : Int32) (sz : Nat)  : Met l yX12_noon wsX12_noon ({ frames := 3, cells := 0, slots := 0, locals := 66 }) (va_Pc [.ref h0, .int p0, .int p1, .int p2] (wPre (dC, dI) cy [(h0, .inr (12, [.int 0, .ref m1, .ref m2, .int 0, .ref m4, .ref m5, .ref m6, .ref m7, .ref m8, .int 0, .ref m10, .ref m11, .ref m12, .ref m13, .ref m14, .ref m15, .ref m16, .ref m17, .ref m18, .ref m19, .ref m20, .ref m21, .int 0, .ref m23, .ref m24, .ref m25, .ref m26, .ref m27, .ref m28, .int 0, .int 0, .ref m31, .int 0, .ref m33, .int 0, .ref m35, .int (-1), .ref m37, .int 0, .ref m39, .ref m40, .ref m41, .ref m42, .ref m43, .int 0, .int 0, .int 0, .int 0, .int 0, .int 0, .int 0, .int 0, .ref m52, .int 0, .ref m54, .int 0, .ref m56, .ref m57, .ref m58]))] sz)) (va_Qi (fun (r : Int32) (u : Unit) => r = -1) (fun (u : Unit) t => True) (va_A [(h0, .inr (12, [.int 0, .ref m1, .ref m2, .int 0, .ref m4, .ref m5, .ref m6, .ref m7, .ref m8, .int 0, .ref m10, .ref m11, .ref m12, .ref m13, .ref m14, .ref m15, .ref m16, .ref m17, .ref m18, .ref m19, .ref m20, .ref m21, .int 0, .ref m23, .ref m24, .ref m25, .ref m26, .ref m27, .ref m28, .int 0, .int 0, .ref m31, .int 0, .ref m33, .int 0, .ref m35, .int (-1), .ref m37, .int 0, .ref m39, .ref m40, .ref m41, .ref m42, .ref m43, .int 0, .int 0, .int 0, .int 0, .int 0, .int 0, .int 0, .int 0, .ref m52, .int 0, .ref m54, .int 0, .ref m56, .ref m57, .ref m58]))] sz)) 0 0 (va_A [(h0, .inr (12, [.int 0, .ref m1, .ref m2, .int 0, .ref m4, .ref m5, .ref m6, .ref m7, .ref m8, .int 0, .ref m10, .ref m11, .ref m12, .ref m13, .ref m14, .ref m15, .ref m16, .ref m17, .ref m18, .ref m19, .ref m20, .ref m21, .int 0, .ref m23, .ref m24, .ref m25, .ref m26, .ref m27, .ref m28, .int 0, .int 0, .ref m31, .int 0, .ref m33, .int 0, .ref m35, .int (-1), .ref m37, .int 0, .ref m39, .ref m40, .ref m41, .ref m42, .ref m43, .int 0, .int 0, .int 0, .int 0, .int 0, .int 0, .int 0, .int 0, .ref m52, .int 0, .ref m54, .int 0, .ref m56, .ref m57, .ref m58]))] sz) := by
  refine Met.ofW (cc := cX12_noon) (maxL := 6) (ret := (some .int)) (by decide) rfl ?_
  intro p e s m args below meth c s₁ B hml hv
  obtain ⟨rfl, hsz, hP, hK, hD0, hN⟩ := hv
  have hx := B.exec
  have hb := B.bytes
  have hr := B.returns
  have hts := atoms_spec (ws := wsX12_noon) B.pre
  have hown : s.vm.findClass RX12 = some m.cls := findClass_of_methodNamed B.named
  have hlocks := B.notSynchronized
  subst hsz
  have hD := hD0.self (sz := s.heap.size)
  generalize hAe : va_A [(h0, .inr (12, [.int 0, .ref m1, .ref m2, .int 0, .ref m4, .ref m5, .ref m6, .ref m7, .ref m8, .int 0, .ref m10, .ref m11, .ref m12, .ref m13, .ref m14, .ref m15, .ref m16, .ref m17, .ref m18, .ref m19, .ref m20, .ref m21, .int 0, .ref m23, .ref m24, .ref m25, .ref m26, .ref m27, .ref m28, .int 0, .int 0, .ref m31, .int 0, .ref m33, .int 0, .ref m35, .int (-1), .ref m37, .int 0, .ref m39, .ref m40, .ref m41, .ref m42, .ref m43, .int 0, .int 0, .int 0, .int 0, .int 0, .int 0, .int 0, .int 0, .ref m52, .int 0, .ref m54, .int 0, .ref m56, .ref m57, .ref m58]))] s.heap.size = A at hD ⊢
  have hA : ∀ q : Nat, s.heap.size ≤ q → A q := fun q h => by rw [← hAe]; exact Or.inr h
  have hS : va_S A s.heap s.heap [] := va_S.rf
  have hl := lv_entry ([.ref h0, .int p0, .int p1, .int p2]) (n := 6) (Nat.le_of_ble_eq_true rfl)
  rw [lg_entry_eq]
  generalize (lg_sl ([.ref h0, .int p0, .int p1, .int p2]) ++ List.replicate (6 - (lg_sl ([.ref h0, .int p0, .int p1, .int p2])).length) Slot.unset).toArray = ls at hl ⊢
  have hl : lv_has ls 6 [(0, .ref h0), (1, .int p0), (2, .int p1), (3, .int p2)] := hl
  refine lv_aload_n hx hb dX12_noon_0 rfl (lv_at hl 0 rfl) ?_
  change W _ _ _ _ _ _ _ _ _ _ _ _ _ _ _ (F0 m 1 ls [.ref h0])
  refine lv_iload_n hx hb dX12_noon_1 rfl (lv_at hl 1 rfl) ?_
  have hPc := hP.sub (ws' := [(h0, .inr (12, [.int 0, .ref m1, .ref m2, .int 0, .ref m4, .ref m5, .ref m6, .ref m7, .ref m8, .int 0, .ref m10, .ref m11, .ref m12, .ref m13, .ref m14, .ref m15, .ref m16, .ref m17, .ref m18, .ref m19, .ref m20, .ref m21, .int 0, .ref m23, .ref m24, .ref m25, .ref m26, .ref m27, .ref m28, .int 0, .int 0, .ref m31, .int 0, .ref m33, .int 0, .ref m35, .int (-1), .ref m37, .int 0, .ref m39, .ref m40, .ref m41, .ref m42, .ref m43, .int 0, .int 0, .int 0, .int 0, .int 0, .int 0, .int 0, .int 0, .ref m52, .int 0, .ref m54, .int 0, .ref m56, .ref m57, .ref m58]))]) [0] rfl
  have hDc := hD.sub (ws' := [(h0, .inr (12, [.int 0, .ref m1, .ref m2, .int 0, .ref m4, .ref m5, .ref m6, .ref m7, .ref m8, .int 0, .ref m10, .ref m11, .ref m12, .ref m13, .ref m14, .ref m15, .ref m16, .ref m17, .ref m18, .ref m19, .ref m20, .ref m21, .int 0, .ref m23, .ref m24, .ref m25, .ref m26, .ref m27, .ref m28, .int 0, .int 0, .ref m31, .int 0, .ref m33, .int 0, .ref m35, .int (-1), .ref m37, .int 0, .ref m39, .ref m40, .ref m41, .ref m42, .ref m43, .int 0, .int 0, .int 0, .int 0, .int 0, .int 0, .int 0, .int 0, .ref m52, .int 0, .ref m54, .int 0, .ref m56, .ref m57, .ref m58]))]) [0] (by decide) rfl
  refine vz_callSi (va_runV (As := [.int p0]) (rest := []) ⟨hx, hb, hml, hown, hts⟩ (c_M_isTable l dC dI cy h0 m1 m2 m4 m5 m6 m7 m8 m10 m11 m12 m13 m14 m15 m16 m17 m18 m19 m20 m21 m23 m24 m25 m26 m27 m28 m31 m33 m35 m37 m39 m40 m41 m42 m43 m52 m54 m56 m57 m58 p0 s.heap.size) (cwV 1 hts gX12_noon_X12_isTable rfl rfl rfl (by decide +kernel) ⟨Nat.le_of_ble_eq_true rfl, Nat.le_of_ble_eq_true rfl⟩) (wp_V hK hN hPc hDc (va_recv hK hPc (ci := 12) (q0 := 0) rfl rfl)) rfl rfl hl.1 rfl (lv_room (Nat.le_of_ble_eq_true rfl)) dX12_noon_2 ⟨Nat.le_of_ble_eq_true rfl, Nat.le_of_ble_eq_true rfl⟩) (fun r_1 hw_1 => ?_)
  obtain rfl : r_1 = 0 := hw_1
  refine lv_if_eq (tgt := 30) hx hb dX12_noon_5 (by decide) (fun _ => ?_) (fun c_2 => absurd c_2 (by decide))
  refine lv_iconst (v := (-1)) hx hb dX12_noon_30 (by decide) ?_
  exact W.iret (v := (-1)) hx hb hr (fun t ht hW => ⟨⟨(-1), (), rfl, (by first | rfl | (exfalso; omega)), trivial⟩, hS.F ht⟩) hS.2.2 dX12_noon_31
set_option maxHeartbeats 4000000 in
set_option maxRecDepth 100000 in
theorem c_M_order (l : Launch) (dC : Nat → ClassId) (dI : Nat → Nat → Nat) (cy : Nat → ClassId) (h0 : Nat) (m1 : Nat) (m2 : Nat) (m4 : Nat) (m5 : Nat) (m6 : Nat) (m7 : Nat) (m8 : Nat) (m10 : Nat) (m11 : Nat) (m12 : Nat) (m13 : Nat) (m14 : Nat) (m15 : Nat) (m16 : Nat) (m17 : Nat) (m18 : Nat) (m19 : Nat) (m20 : Nat) (m21 : Nat) (m23 : Nat) (m24 : Nat) (m25 : Nat) (m26 : Nat) (m27 : Nat) (m28 : Nat) (m31 : Nat) (m33 : Nat) (m35 : Nat) (m37 : Nat) (m39 : Nat) (m40 : Nat) (m41 : Nat) (m42 : Nat) (m43 : Nat) (m52 : Nat) (m54 : Nat) (m56 : Nat) (m57 : Nat) (m58 : Nat) (p0 : Int32) (sz : Nat)  : Met l yX12_order wsX12_order ({ frames := 3, cells := 0, slots := 0, locals := 66 }) (va_Pc [.ref h0, .int p0] (wPre (dC, dI) cy [(h0, .inr (12, [.int 0, .ref m1, .ref m2, .int 0, .ref m4, .ref m5, .ref m6, .ref m7, .ref m8, .int 0, .ref m10, .ref m11, .ref m12, .ref m13, .ref m14, .ref m15, .ref m16, .ref m17, .ref m18, .ref m19, .ref m20, .ref m21, .int 0, .ref m23, .ref m24, .ref m25, .ref m26, .ref m27, .ref m28, .int 0, .int 0, .ref m31, .int 0, .ref m33, .int 0, .ref m35, .int (-1), .ref m37, .int 0, .ref m39, .ref m40, .ref m41, .ref m42, .ref m43, .int 0, .int 0, .int 0, .int 0, .int 0, .int 0, .int 0, .int 0, .ref m52, .int 0, .ref m54, .int 0, .ref m56, .ref m57, .ref m58]))] sz)) (va_Qi (fun (r : Int32) (u : Unit) => r = -1) (fun (u : Unit) t => True) (va_A [(h0, .inr (12, [.int 0, .ref m1, .ref m2, .int 0, .ref m4, .ref m5, .ref m6, .ref m7, .ref m8, .int 0, .ref m10, .ref m11, .ref m12, .ref m13, .ref m14, .ref m15, .ref m16, .ref m17, .ref m18, .ref m19, .ref m20, .ref m21, .int 0, .ref m23, .ref m24, .ref m25, .ref m26, .ref m27, .ref m28, .int 0, .int 0, .ref m31, .int 0, .ref m33, .int 0, .ref m35, .int (-1), .ref m37, .int 0, .ref m39, .ref m40, .ref m41, .ref m42, .ref m43, .int 0, .int 0, .int 0, .int 0, .int 0, .int 0, .int 0, .int 0, .ref m52, .int 0, .ref m54, .int 0, .ref m56, .ref m57, .ref m58]))] sz)) 0 0 (va_A [(h0, .inr (12, [.int 0, .ref m1, .ref m2, .int 0, .ref m4, .ref m5, .ref m6, .ref m7, .ref m8, .int 0, .ref m10, .ref m11, .ref m12, .ref m13, .ref m14, .ref m15, .ref m16, .ref m17, .ref m18, .ref m19, .ref m20, .ref m21, .int 0, .ref m23, .ref m24, .ref m25, .ref m26, .ref m27, .ref m28, .int 0, .int 0, .ref m31, .int 0, .ref m33, .int 0, .ref m35, .int (-1), .ref m37, .int 0, .ref m39, .ref m40, .ref m41, .ref m42, .ref m43, .int 0, .int 0, .int 0, .int 0, .int 0, .int 0, .int 0, .int 0, .ref m52, .int 0, .ref m54, .int 0, .ref m56, .ref m57, .ref m58]))] sz) := by
  refine Met.ofW (cc := cX12_order) (maxL := 6) (ret := (some .int)) (by decide) rfl ?_
  intro p e s m args below meth c s₁ B hml hv
  obtain ⟨rfl, hsz, hP, hK, hD0, hN⟩ := hv
  have hx := B.exec
  have hb := B.bytes
  have hr := B.returns
  have hts := atoms_spec (ws := wsX12_order) B.pre
  have hown : s.vm.findClass RX12 = some m.cls := findClass_of_methodNamed B.named
  have hlocks := B.notSynchronized
  subst hsz
  have hD := hD0.self (sz := s.heap.size)
  generalize hAe : va_A [(h0, .inr (12, [.int 0, .ref m1, .ref m2, .int 0, .ref m4, .ref m5, .ref m6, .ref m7, .ref m8, .int 0, .ref m10, .ref m11, .ref m12, .ref m13, .ref m14, .ref m15, .ref m16, .ref m17, .ref m18, .ref m19, .ref m20, .ref m21, .int 0, .ref m23, .ref m24, .ref m25, .ref m26, .ref m27, .ref m28, .int 0, .int 0, .ref m31, .int 0, .ref m33, .int 0, .ref m35, .int (-1), .ref m37, .int 0, .ref m39, .ref m40, .ref m41, .ref m42, .ref m43, .int 0, .int 0, .int 0, .int 0, .int 0, .int 0, .int 0, .int 0, .ref m52, .int 0, .ref m54, .int 0, .ref m56, .ref m57, .ref m58]))] s.heap.size = A at hD ⊢
  have hA : ∀ q : Nat, s.heap.size ≤ q → A q := fun q h => by rw [← hAe]; exact Or.inr h
  have hS : va_S A s.heap s.heap [] := va_S.rf
  have hl := lv_entry ([.ref h0, .int p0]) (n := 6) (Nat.le_of_ble_eq_true rfl)
  rw [lg_entry_eq]
  generalize (lg_sl ([.ref h0, .int p0]) ++ List.replicate (6 - (lg_sl ([.ref h0, .int p0])).length) Slot.unset).toArray = ls at hl ⊢
  have hl : lv_has ls 6 [(0, .ref h0), (1, .int p0)] := hl
  refine lv_aload_n hx hb dX12_order_0 rfl (lv_at hl 0 rfl) ?_
  refine lv_iload_n hx hb dX12_order_1 rfl (lv_at hl 1 rfl) ?_
  have hPc := hP.sub (ws' := [(h0, .inr (12, [.int 0, .ref m1, .ref m2, .int 0, .ref m4, .ref m5, .ref m6, .ref m7, .ref m8, .int 0, .ref m10, .ref m11, .ref m12, .ref m13, .ref m14, .ref m15, .ref m16, .ref m17, .ref m18, .ref m19, .ref m20, .ref m21, .int 0, .ref m23, .ref m24, .ref m25, .ref m26, .ref m27, .ref m28, .int 0, .int 0, .ref m31, .int 0, .ref m33, .int 0, .ref m35, .int (-1), .ref m37, .int 0, .ref m39, .ref m40, .ref m41, .ref m42, .ref m43, .int 0, .int 0, .int 0, .int 0, .int 0, .int 0, .int 0, .int 0, .ref m52, .int 0, .ref m54, .int 0, .ref m56, .ref m57, .ref m58]))]) [0] rfl
  have hDc := hD.sub (ws' := [(h0, .inr (12, [.int 0, .ref m1, .ref m2, .int 0, .ref m4, .ref m5, .ref m6, .ref m7, .ref m8, .int 0, .ref m10, .ref m11, .ref m12, .ref m13, .ref m14, .ref m15, .ref m16, .ref m17, .ref m18, .ref m19, .ref m20, .ref m21, .int 0, .ref m23, .ref m24, .ref m25, .ref m26, .ref m27, .ref m28, .int 0, .int 0, .ref m31, .int 0, .ref m33, .int 0, .ref m35, .int (-1), .ref m37, .int 0, .ref m39, .ref m40, .ref m41, .ref m42, .ref m43, .int 0, .int 0, .int 0, .int 0, .int 0, .int 0, .int 0, .int 0, .ref m52, .int 0, .ref m54, .int 0, .ref m56, .ref m57, .ref m58]))]) [0] (by decide) rfl
  refine vz_callSi (va_runV (As := [.int p0]) (rest := []) ⟨hx, hb, hml, hown, hts⟩ (c_M_isTable l dC dI cy h0 m1 m2 m4 m5 m6 m7 m8 m10 m11 m12 m13 m14 m15 m16 m17 m18 m19 m20 m21 m23 m24 m25 m26 m27 m28 m31 m33 m35 m37 m39 m40 m41 m42 m43 m52 m54 m56 m57 m58 p0 s.heap.size) (cwV 1 hts gX12_order_X12_isTable rfl rfl rfl (by decide +kernel) ⟨Nat.le_of_ble_eq_true rfl, Nat.le_of_ble_eq_true rfl⟩) (wp_V hK hN hPc hDc (va_recv hK hPc (ci := 12) (q0 := 0) rfl rfl)) rfl rfl hl.1 rfl (lv_room (Nat.le_of_ble_eq_true rfl)) dX12_order_2 ⟨Nat.le_of_ble_eq_true rfl, Nat.le_of_ble_eq_true rfl⟩) (fun r_1 hw_1 => ?_)
  obtain rfl : r_1 = 0 := hw_1
  refine lv_if_eq (tgt := 15) hx hb dX12_order_5 (by decide) (fun _ => ?_) (fun c_2 => absurd c_2 (by decide))
  refine lv_iconst (v := (-1)) hx hb dX12_order_15 (by decide) ?_
  exact W.iret (v := (-1)) hx hb hr (fun t ht hW => ⟨⟨(-1), (), rfl, (by first | rfl | (exfalso; omega)), trivial⟩, hS.F ht⟩) hS.2.2 dX12_order_16
set_option maxHeartbeats 4000000 in
set_option maxRecDepth 100000 in
theorem c_M_harm (l : Launch) (dC : Nat → ClassId) (dI : Nat → Nat → Nat) (cy : Nat → ClassId) (h0 : Nat) (m1 : Nat) (m2 : Nat) (m4 : Nat) (m5 : Nat) (m6 : Nat) (m7 : Nat) (m8 : Nat) (m10 : Nat) (m11 : Nat) (m12 : Nat) (m13 : Nat) (m14 : Nat) (m15 : Nat) (m16 : Nat) (m17 : Nat) (m18 : Nat) (m19 : Nat) (m20 : Nat) (m21 : Nat) (m23 : Nat) (m24 : Nat) (m25 : Nat) (m26 : Nat) (m27 : Nat) (m28 : Nat) (m31 : Nat) (m33 : Nat) (m35 : Nat) (m37 : Nat) (m39 : Nat) (m40 : Nat) (m41 : Nat) (m42 : Nat) (m43 : Nat) (m52 : Nat) (m54 : Nat) (m56 : Nat) (m57 : Nat) (m58 : Nat) (p0 : Int32) (sz : Nat)  : Met l yX12_harm wsX12_harm ({ frames := 3, cells := 0, slots := 0, locals := 66 }) (va_Pc [.ref h0, .int p0] (wPre (dC, dI) cy [(h0, .inr (12, [.int 0, .ref m1, .ref m2, .int 0, .ref m4, .ref m5, .ref m6, .ref m7, .ref m8, .int 0, .ref m10, .ref m11, .ref m12, .ref m13, .ref m14, .ref m15, .ref m16, .ref m17, .ref m18, .ref m19, .ref m20, .ref m21, .int 0, .ref m23, .ref m24, .ref m25, .ref m26, .ref m27, .ref m28, .int 0, .int 0, .ref m31, .int 0, .ref m33, .int 0, .ref m35, .int (-1), .ref m37, .int 0, .ref m39, .ref m40, .ref m41, .ref m42, .ref m43, .int 0, .int 0, .int 0, .int 0, .int 0, .int 0, .int 0, .int 0, .ref m52, .int 0, .ref m54, .int 0, .ref m56, .ref m57, .ref m58]))] sz)) (va_Qi (fun (r : Int32) (u : Unit) => r = -1) (fun (u : Unit) t => True) (va_A [(h0, .inr (12, [.int 0, .ref m1, .ref m2, .int 0, .ref m4, .ref m5, .ref m6, .ref m7, .ref m8, .int 0, .ref m10, .ref m11, .ref m12, .ref m13, .ref m14, .ref m15, .ref m16, .ref m17, .ref m18, .ref m19, .ref m20, .ref m21, .int 0, .ref m23, .ref m24, .ref m25, .ref m26, .ref m27, .ref m28, .int 0, .int 0, .ref m31, .int 0, .ref m33, .int 0, .ref m35, .int (-1), .ref m37, .int 0, .ref m39, .ref m40, .ref m41, .ref m42, .ref m43, .int 0, .int 0, .int 0, .int 0, .int 0, .int 0, .int 0, .int 0, .ref m52, .int 0, .ref m54, .int 0, .ref m56, .ref m57, .ref m58]))] sz)) 0 0 (va_A [(h0, .inr (12, [.int 0, .ref m1, .ref m2, .int 0, .ref m4, .ref m5, .ref m6, .ref m7, .ref m8, .int 0, .ref m10, .ref m11, .ref m12, .ref m13, .ref m14, .ref m15, .ref m16, .ref m17, .ref m18, .ref m19, .ref m20, .ref m21, .int 0, .ref m23, .ref m24, .ref m25, .ref m26, .ref m27, .ref m28, .int 0, .int 0, .ref m31, .int 0, .ref m33, .int 0, .ref m35, .int (-1), .ref m37, .int 0, .ref m39, .ref m40, .ref m41, .ref m42, .ref m43, .int 0, .int 0, .int 0, .int 0, .int 0, .int 0, .int 0, .int 0, .ref m52, .int 0, .ref m54, .int 0, .ref m56, .ref m57, .ref m58]))] sz) := by
  refine Met.ofW (cc := cX12_harm) (maxL := 7) (ret := (some .int)) (by decide) rfl ?_
  intro p e s m args below meth c s₁ B hml hv
  obtain ⟨rfl, hsz, hP, hK, hD0, hN⟩ := hv
  have hx := B.exec
  have hb := B.bytes
  have hr := B.returns
  have hts := atoms_spec (ws := wsX12_harm) B.pre
  have hown : s.vm.findClass RX12 = some m.cls := findClass_of_methodNamed B.named
  have hlocks := B.notSynchronized
  subst hsz
  have hD := hD0.self (sz := s.heap.size)
  generalize hAe : va_A [(h0, .inr (12, [.int 0, .ref m1, .ref m2, .int 0, .ref m4, .ref m5, .ref m6, .ref m7, .ref m8, .int 0, .ref m10, .ref m11, .ref m12, .ref m13, .ref m14, .ref m15, .ref m16, .ref m17, .ref m18, .ref m19, .ref m20, .ref m21, .int 0, .ref m23, .ref m24, .ref m25, .ref m26, .ref m27, .ref m28, .int 0, .int 0, .ref m31, .int 0, .ref m33, .int 0, .ref m35, .int (-1), .ref m37, .int 0, .ref m39, .ref m40, .ref m41, .ref m42, .ref m43, .int 0, .int 0, .int 0, .int 0, .int 0, .int 0, .int 0, .int 0, .ref m52, .int 0, .ref m54, .int 0, .ref m56, .ref m57, .ref m58]))] s.heap.size = A at hD ⊢
  have hA : ∀ q : Nat, s.heap.size ≤ q → A q := fun q h => by rw [← hAe]; exact Or.inr h
  have hS : va_S A s.heap s.heap [] := va_S.rf
  have hl := lv_entry ([.ref h0, .int p0]) (n := 7) (Nat.le_of_ble_eq_true rfl)
  rw [lg_entry_eq]
  generalize (lg_sl ([.ref h0, .int p0]) ++ List.replicate (7 - (lg_sl ([.ref h0, .int p0])).length) Slot.unset).toArray = ls at hl ⊢
  have hl : lv_has ls 7 [(0, .ref h0), (1, .int p0)] := hl
  refine lv_aload_n hx hb dX12_harm_0 rfl (lv_at hl 0 rfl) ?_
  refine lv_iload_n hx hb dX12_harm_1 rfl (lv_at hl 1 rfl) ?_
  have hPc := hP.sub (ws' := [(h0, .inr (12, [.int 0, .ref m1, .ref m2, .int 0, .ref m4, .ref m5, .ref m6, .ref m7, .ref m8, .int 0, .ref m10, .ref m11, .ref m12, .ref m13, .ref m14, .ref m15, .ref m16, .ref m17, .ref m18, .ref m19, .ref m20, .ref m21, .int 0, .ref m23, .ref m24, .ref m25, .ref m26, .ref m27, .ref m28, .int 0, .int 0, .ref m31, .int 0, .ref m33, .int 0, .ref m35, .int (-1), .ref m37, .int 0, .ref m39, .ref m40, .ref m41, .ref m42, .ref m43, .int 0, .int 0, .int 0, .int 0, .int 0, .int 0, .int 0, .int 0, .ref m52, .int 0, .ref m54, .int 0, .ref m56, .ref m57, .ref m58]))]) [0] rfl
  have hDc := hD.sub (ws' := [(h0, .inr (12, [.int 0, .ref m1, .ref m2, .int 0, .ref m4, .ref m5, .ref m6, .ref m7, .ref m8, .int 0, .ref m10, .ref m11, .ref m12, .ref m13, .ref m14, .ref m15, .ref m16, .ref m17, .ref m18, .ref m19, .ref m20, .ref m21, .int 0, .ref m23, .ref m24, .ref m25, .ref m26, .ref m27, .ref m28, .int 0, .int 0, .ref m31, .int 0, .ref m33, .int 0, .ref m35, .int (-1), .ref m37, .int 0, .ref m39, .ref m40, .ref m41, .ref m42, .ref m43, .int 0, .int 0, .int 0, .int 0, .int 0, .int 0, .int 0, .int 0, .ref m52, .int 0, .ref m54, .int 0, .ref m56, .ref m57, .ref m58]))]) [0] (by decide) rfl
  refine vz_callSi (va_runV (As := [.int p0]) (rest := []) ⟨hx, hb, hml, hown, hts⟩ (c_M_isTable l dC dI cy h0 m1 m2 m4 m5 m6 m7 m8 m10 m11 m12 m13 m14 m15 m16 m17 m18 m19 m20 m21 m23 m24 m25 m26 m27 m28 m31 m33 m35 m37 m39 m40 m41 m42 m43 m52 m54 m56 m57 m58 p0 s.heap.size) (cwV 1 hts gX12_harm_X12_isTable rfl rfl rfl (by decide +kernel) ⟨Nat.le_of_ble_eq_true rfl, Nat.le_of_ble_eq_true rfl⟩) (wp_V hK hN hPc hDc (va_recv hK hPc (ci := 12) (q0 := 0) rfl rfl)) rfl rfl hl.1 rfl (lv_room (Nat.le_of_ble_eq_true rfl)) dX12_harm_2 ⟨Nat.le_of_ble_eq_true rfl, Nat.le_of_ble_eq_true rfl⟩) (fun r_1 hw_1 => ?_)
  obtain rfl : r_1 = 0 := hw_1
  refine lv_if_eq (tgt := 15) hx hb dX12_harm_5 (by decide) (fun _ => ?_) (fun c_2 => absurd c_2 (by decide))
  refine lv_iconst (v := (-1)) hx hb dX12_harm_15 (by decide) ?_
  change W _ _ _ _ _ _ _ _ _ _ _ _ _ _ _ (F0 m 16 ls [.int (-1)])
  exact W.iret (v := (-1)) hx hb hr (fun t ht hW => ⟨⟨(-1), (), rfl, (by first | rfl | (exfalso; omega)), trivial⟩, hS.F ht⟩) hS.2.2 dX12_harm_16
set_option maxHeartbeats 4000000 in
set_option maxRecDepth 100000 in
theorem c_M_write (l : Launch) (dC : Nat → ClassId) (dI : Nat → Nat → Nat) (cy : Nat → ClassId) (h0 : Nat) (m1 : Nat) (m2 : Nat) (m4 : Nat) (m5 : Nat) (m6 : Nat) (m7 : Nat) (m8 : Nat) (m10 : Nat) (m11 : Nat) (m12 : Nat) (m13 : Nat) (m14 : Nat) (m15 : Nat) (m16 : Nat) (m17 : Nat) (m18 : Nat) (m19 : Nat) (m20 : Nat) (m21 : Nat) (m23 : Nat) (m24 : Nat) (m25 : Nat) (m26 : Nat) (m27 : Nat) (m28 : Nat) (m31 : Nat) (m33 : Nat) (m35 : Nat) (m37 : Nat) (m39 : Nat) (m40 : Nat) (m41 : Nat) (m42 : Nat) (m43 : Nat) (m52 : Nat) (m54 : Nat) (m56 : Nat) (m57 : Nat) (m58 : Nat) (p0 : Int32) (p1 : Int32) (sz : Nat)  : Met l yX12_write wsX12_write ({ frames := 3, cells := 0, slots := 0, locals := 66 }) (va_Pc [.ref h0, .int p0, .int p1] (wPre (dC, dI) cy [(h0, .inr (12, [.int 0, .ref m1, .ref m2, .int 0, .ref m4, .ref m5, .ref m6, .ref m7, .ref m8, .int 0, .ref m10, .ref m11, .ref m12, .ref m13, .ref m14, .ref m15, .ref m16, .ref m17, .ref m18, .ref m19, .ref m20, .ref m21, .int 0, .ref m23, .ref m24, .ref m25, .ref m26, .ref m27, .ref m28, .int 0, .int 0, .ref m31, .int 0, .ref m33, .int 0, .ref m35, .int (-1), .ref m37, .int 0, .ref m39, .ref m40, .ref m41, .ref m42, .ref m43, .int 0, .int 0, .int 0, .int 0, .int 0, .int 0, .int 0, .int 0, .ref m52, .int 0, .ref m54, .int 0, .ref m56, .ref m57, .ref m58]))] sz)) (va_Qi (fun (r : Int32) (u : Unit) => r = -1) (fun (u : Unit) t => True) (va_A [(h0, .inr (12, [.int 0, .ref m1, .ref m2, .int 0, .ref m4, .ref m5, .ref m6, .ref m7, .ref m8, .int 0, .ref m10, .ref m11, .ref m12, .ref m13, .ref m14, .ref m15, .ref m16, .ref m17, .ref m18, .ref m19, .ref m20, .ref m21, .int 0, .ref m23, .ref m24, .ref m25, .ref m26, .ref m27, .ref m28, .int 0, .int 0, .ref m31, .int 0, .ref m33, .int 0, .ref m35, .int (-1), .ref m37, .int 0, .ref m39, .ref m40, .ref m41, .ref m42, .ref m43, .int 0, .int 0, .int 0, .int 0, .int 0, .int 0, .int 0, .int 0, .ref m52, .int 0, .ref m54, .int 0, .ref m56, .ref m57, .ref m58]))] sz)) 0 0 (va_A [(h0, .inr (12, [.int 0, .ref m1, .ref m2, .int 0, .ref m4, .ref m5, .ref m6, .ref m7, .ref m8, .int 0, .ref m10, .ref m11, .ref m12, .ref m13, .ref m14, .ref m15, .ref m16, .ref m17, .ref m18, .ref m19, .ref m20, .ref m21, .int 0, .ref m23, .ref m24, .ref m25, .ref m26, .ref m27, .ref m28, .int 0, .int 0, .ref m31, .int 0, .ref m33, .int 0, .ref m35, .int (-1), .ref m37, .int 0, .ref m39, .ref m40, .ref m41, .ref m42, .ref m43, .int 0, .int 0, .int 0, .int 0, .int 0, .int 0, .int 0, .int 0, .ref m52, .int 0, .ref m54, .int 0, .ref m56, .ref m57, .ref m58]))] sz) := by
  refine Met.ofW (cc := cX12_write) (maxL := 7) (ret := (some .int)) (by decide) rfl ?_
  intro p e s m args below meth c s₁ B hml hv
  obtain ⟨rfl, hsz, hP, hK, hD0, hN⟩ := hv
  have hx := B.exec
  have hb := B.bytes
  have hr := B.returns
  have hts := atoms_spec (ws := wsX12_write) B.pre
  have hown : s.vm.findClass RX12 = some m.cls := findClass_of_methodNamed B.named
  have hlocks := B.notSynchronized
  subst hsz
  have hD := hD0.self (sz := s.heap.size)
  generalize hAe : va_A [(h0, .inr (12, [.int 0, .ref m1, .ref m2, .int 0, .ref m4, .ref m5, .ref m6, .ref m7, .ref m8, .int 0, .ref m10, .ref m11, .ref m12, .ref m13, .ref m14, .ref m15, .ref m16, .ref m17, .ref m18, .ref m19, .ref m20, .ref m21, .int 0, .ref m23, .ref m24, .ref m25, .ref m26, .ref m27, .ref m28, .int 0, .int 0, .ref m31, .int 0, .ref m33, .int 0, .ref m35, .int (-1), .ref m37, .int 0, .ref m39, .ref m40, .ref m41, .ref m42, .ref m43, .int 0, .int 0, .int 0, .int 0, .int 0, .int 0, .int 0, .int 0, .ref m52, .int 0, .ref m54, .int 0, .ref m56, .ref m57, .ref m58]))] s.heap.size = A at hD ⊢
  have hA : ∀ q : Nat, s.heap.size ≤ q → A q := fun q h => by rw [← hAe]; exact Or.inr h
  have hS : va_S A s.heap s.heap [] := va_S.rf
  have hl := lv_entry ([.ref h0, .int p0, .int p1]) (n := 7) (Nat.le_of_ble_eq_true rfl)
  rw [lg_entry_eq]
  generalize (lg_sl ([.ref h0, .int p0, .int p1]) ++ List.replicate (7 - (lg_sl ([.ref h0, .int p0, .int p1])).length) Slot.unset).toArray = ls at hl ⊢
  have hl : lv_has ls 7 [(0, .ref h0), (1, .int p0), (2, .int p1)] := hl
  refine lv_aload_n hx hb dX12_write_0 rfl (lv_at hl 0 rfl) ?_
  refine lv_iload_n hx hb dX12_write_1 rfl (lv_at hl 1 rfl) ?_
  have hPc := hP.sub (ws' := [(h0, .inr (12, [.int 0, .ref m1, .ref m2, .int 0, .ref m4, .ref m5, .ref m6, .ref m7, .ref m8, .int 0, .ref m10, .ref m11, .ref m12, .ref m13, .ref m14, .ref m15, .ref m16, .ref m17, .ref m18, .ref m19, .ref m20, .ref m21, .int 0, .ref m23, .ref m24, .ref m25, .ref m26, .ref m27, .ref m28, .int 0, .int 0, .ref m31, .int 0, .ref m33, .int 0, .ref m35, .int (-1), .ref m37, .int 0, .ref m39, .ref m40, .ref m41, .ref m42, .ref m43, .int 0, .int 0, .int 0, .int 0, .int 0, .int 0, .int 0, .int 0, .ref m52, .int 0, .ref m54, .int 0, .ref m56, .ref m57, .ref m58]))]) [0] rfl
  have hDc := hD.sub (ws' := [(h0, .inr (12, [.int 0, .ref m1, .ref m2, .int 0, .ref m4, .ref m5, .ref m6, .ref m7, .ref m8, .int 0, .ref m10, .ref m11, .ref m12, .ref m13, .ref m14, .ref m15, .ref m16, .ref m17, .ref m18, .ref m19, .ref m20, .ref m21, .int 0, .ref m23, .ref m24, .ref m25, .ref m26, .ref m27, .ref m28, .int 0, .int 0, .ref m31, .int 0, .ref m33, .int 0, .ref m35, .int (-1), .ref m37, .int 0, .ref m39, .ref m40, .ref m41, .ref m42, .ref m43, .int 0, .int 0, .int 0, .int 0, .int 0, .int 0, .int 0, .int 0, .ref m52, .int 0, .ref m54, .int 0, .ref m56, .ref m57, .ref m58]))]) [0] (by decide) rfl
  refine vz_callSi (va_runV (As := [.int p0]) (rest := []) ⟨hx, hb, hml, hown, hts⟩ (c_M_isKeeper l dC dI cy h0 m1 m2 m4 m5 m6 m7 m8 m10 m11 m12 m13 m14 m15 m16 m17 m18 m19 m20 m21 m23 m24 m25 m26 m27 m28 m31 m33 m35 m37 m39 m40 m41 m42 m43 m52 m54 m56 m57 m58 p0 s.heap.size) (cwV 1 hts gX12_write_X12_isKeeper rfl rfl rfl (by decide +kernel) ⟨Nat.le_of_ble_eq_true rfl, Nat.le_of_ble_eq_true rfl⟩) (wp_V hK hN hPc hDc (va_recv hK hPc (ci := 12) (q0 := 0) rfl rfl)) rfl rfl hl.1 rfl (lv_room (Nat.le_of_ble_eq_true rfl)) dX12_write_2 ⟨Nat.le_of_ble_eq_true rfl, Nat.le_of_ble_eq_true rfl⟩) (fun r_1 hw_1 => ?_)
  obtain rfl : r_1 = 0 := hw_1
  change W _ _ _ _ _ _ _ _ _ _ _ _ _ _ _ (F0 m 5 ls [.int 0])
  refine lv_if_eq (tgt := 16) hx hb dX12_write_5 (by decide) (fun _ => ?_) (fun c_2 => absurd c_2 (by decide))
  refine lv_iconst (v := (-1)) hx hb dX12_write_16 (by decide) ?_
  exact W.iret (v := (-1)) hx hb hr (fun t ht hW => ⟨⟨(-1), (), rfl, (by first | rfl | (exfalso; omega)), trivial⟩, hS.F ht⟩) hS.2.2 dX12_write_17
set_option maxHeartbeats 4000000 in
set_option maxRecDepth 100000 in
theorem c_M_read (l : Launch) (dC : Nat → ClassId) (dI : Nat → Nat → Nat) (cy : Nat → ClassId) (h0 : Nat) (m1 : Nat) (m2 : Nat) (m4 : Nat) (m5 : Nat) (m6 : Nat) (m7 : Nat) (m8 : Nat) (m10 : Nat) (m11 : Nat) (m12 : Nat) (m13 : Nat) (m14 : Nat) (m15 : Nat) (m16 : Nat) (m17 : Nat) (m18 : Nat) (m19 : Nat) (m20 : Nat) (m21 : Nat) (m23 : Nat) (m24 : Nat) (m25 : Nat) (m26 : Nat) (m27 : Nat) (m28 : Nat) (m31 : Nat) (m33 : Nat) (m35 : Nat) (m37 : Nat) (m39 : Nat) (m40 : Nat) (m41 : Nat) (m42 : Nat) (m43 : Nat) (m52 : Nat) (m54 : Nat) (m56 : Nat) (m57 : Nat) (m58 : Nat) (p0 : Int32) (p1 : Int32) (sz : Nat)  : Met l yX12_read wsX12_read ({ frames := 3, cells := 0, slots := 0, locals := 66 }) (va_Pc [.ref h0, .int p0, .int p1] (wPre (dC, dI) cy [(h0, .inr (12, [.int 0, .ref m1, .ref m2, .int 0, .ref m4, .ref m5, .ref m6, .ref m7, .ref m8, .int 0, .ref m10, .ref m11, .ref m12, .ref m13, .ref m14, .ref m15, .ref m16, .ref m17, .ref m18, .ref m19, .ref m20, .ref m21, .int 0, .ref m23, .ref m24, .ref m25, .ref m26, .ref m27, .ref m28, .int 0, .int 0, .ref m31, .int 0, .ref m33, .int 0, .ref m35, .int (-1), .ref m37, .int 0, .ref m39, .ref m40, .ref m41, .ref m42, .ref m43, .int 0, .int 0, .int 0, .int 0, .int 0, .int 0, .int 0, .int 0, .ref m52, .int 0, .ref m54, .int 0, .ref m56, .ref m57, .ref m58]))] sz)) (va_Qi (fun (r : Int32) (u : Unit) => r = -1) (fun (u : Unit) t => True) (va_A [(h0, .inr (12, [.int 0, .ref m1, .ref m2, .int 0, .ref m4, .ref m5, .ref m6, .ref m7, .ref m8, .int 0, .ref m10, .ref m11, .ref m12, .ref m13, .ref m14, .ref m15, .ref m16, .ref m17, .ref m18, .ref m19, .ref m20, .ref m21, .int 0, .ref m23, .ref m24, .ref m25, .ref m26, .ref m27, .ref m28, .int 0, .int 0, .ref m31, .int 0, .ref m33, .int 0, .ref m35, .int (-1), .ref m37, .int 0, .ref m39, .ref m40, .ref m41, .ref m42, .ref m43, .int 0, .int 0, .int 0, .int 0, .int 0, .int 0, .int 0, .int 0, .ref m52, .int 0, .ref m54, .int 0, .ref m56, .ref m57, .ref m58]))] sz)) 0 0 (va_A [(h0, .inr (12, [.int 0, .ref m1, .ref m2, .int 0, .ref m4, .ref m5, .ref m6, .ref m7, .ref m8, .int 0, .ref m10, .ref m11, .ref m12, .ref m13, .ref m14, .ref m15, .ref m16, .ref m17, .ref m18, .ref m19, .ref m20, .ref m21, .int 0, .ref m23, .ref m24, .ref m25, .ref m26, .ref m27, .ref m28, .int 0, .int 0, .ref m31, .int 0, .ref m33, .int 0, .ref m35, .int (-1), .ref m37, .int 0, .ref m39, .ref m40, .ref m41, .ref m42, .ref m43, .int 0, .int 0, .int 0, .int 0, .int 0, .int 0, .int 0, .int 0, .ref m52, .int 0, .ref m54, .int 0, .ref m56, .ref m57, .ref m58]))] sz) := by
  refine Met.ofW (cc := cX12_read) (maxL := 6) (ret := (some .int)) (by decide) rfl ?_
  intro p e s m args below meth c s₁ B hml hv
  obtain ⟨rfl, hsz, hP, hK, hD0, hN⟩ := hv
  have hx := B.exec
  have hb := B.bytes
  have hr := B.returns
  have hts := atoms_spec (ws := wsX12_read) B.pre
  have hown : s.vm.findClass RX12 = some m.cls := findClass_of_methodNamed B.named
  have hlocks := B.notSynchronized
  subst hsz
  have hD := hD0.self (sz := s.heap.size)
  generalize hAe : va_A [(h0, .inr (12, [.int 0, .ref m1, .ref m2, .int 0, .ref m4, .ref m5, .ref m6, .ref m7, .ref m8, .int 0, .ref m10, .ref m11, .ref m12, .ref m13, .ref m14, .ref m15, .ref m16, .ref m17, .ref m18, .ref m19, .ref m20, .ref m21, .int 0, .ref m23, .ref m24, .ref m25, .ref m26, .ref m27, .ref m28, .int 0, .int 0, .ref m31, .int 0, .ref m33, .int 0, .ref m35, .int (-1), .ref m37, .int 0, .ref m39, .ref m40, .ref m41, .ref m42, .ref m43, .int 0, .int 0, .int 0, .int 0, .int 0, .int 0, .int 0, .int 0, .ref m52, .int 0, .ref m54, .int 0, .ref m56, .ref m57, .ref m58]))] s.heap.size = A at hD ⊢
  have hA : ∀ q : Nat, s.heap.size ≤ q → A q := fun q h => by rw [← hAe]; exact Or.inr h
  have hS : va_S A s.heap s.heap [] := va_S.rf
  have hl := lv_entry ([.ref h0, .int p0, .int p1]) (n := 6) (Nat.le_of_ble_eq_true rfl)
  rw [lg_entry_eq]
  generalize (lg_sl ([.ref h0, .int p0, .int p1]) ++ List.replicate (6 - (lg_sl ([.ref h0, .int p0, .int p1])).length) Slot.unset).toArray = ls at hl ⊢
  have hl : lv_has ls 6 [(0, .ref h0), (1, .int p0), (2, .int p1)] := hl
  refine lv_aload_n hx hb dX12_read_0 rfl (lv_at hl 0 rfl) ?_
  change W _ _ _ _ _ _ _ _ _ _ _ _ _ _ _ (F0 m 1 ls [.ref h0])
  refine lv_iload_n hx hb dX12_read_1 rfl (lv_at hl 1 rfl) ?_
  have hPc := hP.sub (ws' := [(h0, .inr (12, [.int 0, .ref m1, .ref m2, .int 0, .ref m4, .ref m5, .ref m6, .ref m7, .ref m8, .int 0, .ref m10, .ref m11, .ref m12, .ref m13, .ref m14, .ref m15, .ref m16, .ref m17, .ref m18, .ref m19, .ref m20, .ref m21, .int 0, .ref m23, .ref m24, .ref m25, .ref m26, .ref m27, .ref m28, .int 0, .int 0, .ref m31, .int 0, .ref m33, .int 0, .ref m35, .int (-1), .ref m37, .int 0, .ref m39, .ref m40, .ref m41, .ref m42, .ref m43, .int 0, .int 0, .int 0, .int 0, .int 0, .int 0, .int 0, .int 0, .ref m52, .int 0, .ref m54, .int 0, .ref m56, .ref m57, .ref m58]))]) [0] rfl
  have hDc := hD.sub (ws' := [(h0, .inr (12, [.int 0, .ref m1, .ref m2, .int 0, .ref m4, .ref m5, .ref m6, .ref m7, .ref m8, .int 0, .ref m10, .ref m11, .ref m12, .ref m13, .ref m14, .ref m15, .ref m16, .ref m17, .ref m18, .ref m19, .ref m20, .ref m21, .int 0, .ref m23, .ref m24, .ref m25, .ref m26, .ref m27, .ref m28, .int 0, .int 0, .ref m31, .int 0, .ref m33, .int 0, .ref m35, .int (-1), .ref m37, .int 0, .ref m39, .ref m40, .ref m41, .ref m42, .ref m43, .int 0, .int 0, .int 0, .int 0, .int 0, .int 0, .int 0, .int 0, .ref m52, .int 0, .ref m54, .int 0, .ref m56, .ref m57, .ref m58]))]) [0] (by decide) rfl
  refine vz_callSi (va_runV (As := [.int p0]) (rest := []) ⟨hx, hb, hml, hown, hts⟩ (c_M_isKeeper l dC dI cy h0 m1 m2 m4 m5 m6 m7 m8 m10 m11 m12 m13 m14 m15 m16 m17 m18 m19 m20 m21 m23 m24 m25 m26 m27 m28 m31 m33 m35 m37 m39 m40 m41 m42 m43 m52 m54 m56 m57 m58 p0 s.heap.size) (cwV 1 hts gX12_read_X12_isKeeper rfl rfl rfl (by decide +kernel) ⟨Nat.le_of_ble_eq_true rfl, Nat.le_of_ble_eq_true rfl⟩) (wp_V hK hN hPc hDc (va_recv hK hPc (ci := 12) (q0 := 0) rfl rfl)) rfl rfl hl.1 rfl (lv_room (Nat.le_of_ble_eq_true rfl)) dX12_read_2 ⟨Nat.le_of_ble_eq_true rfl, Nat.le_of_ble_eq_true rfl⟩) (fun r_1 hw_1 => ?_)
  obtain rfl : r_1 = 0 := hw_1
  refine lv_if_eq (tgt := 16) hx hb dX12_read_5 (by decide) (fun _ => ?_) (fun c_2 => absurd c_2 (by decide))
  refine lv_iconst (v := (-1)) hx hb dX12_read_16 (by decide) ?_
  exact W.iret (v := (-1)) hx hb hr (fun t ht hW => ⟨⟨(-1), (), rfl, (by first | rfl | (exfalso; omega)), trivial⟩, hS.F ht⟩) hS.2.2 dX12_read_17
set_option maxHeartbeats 4000000 in
set_option maxRecDepth 100000 in
theorem c_M_onShelf (l : Launch) (dC : Nat → ClassId) (dI : Nat → Nat → Nat) (cy : Nat → ClassId) (h0 : Nat) (m1 : Nat) (m2 : Nat) (m4 : Nat) (m5 : Nat) (m6 : Nat) (m7 : Nat) (m8 : Nat) (m10 : Nat) (m11 : Nat) (m12 : Nat) (m13 : Nat) (m14 : Nat) (m15 : Nat) (m16 : Nat) (m17 : Nat) (m18 : Nat) (m19 : Nat) (m20 : Nat) (m21 : Nat) (m23 : Nat) (m24 : Nat) (m25 : Nat) (m26 : Nat) (m27 : Nat) (m28 : Nat) (m31 : Nat) (m33 : Nat) (m35 : Nat) (m37 : Nat) (m39 : Nat) (m40 : Nat) (m41 : Nat) (m42 : Nat) (m43 : Nat) (m52 : Nat) (m54 : Nat) (m56 : Nat) (m57 : Nat) (m58 : Nat) (p0 : Int32) (p1 : Int32) (p2 : Int32) (sz : Nat)  : Met l yX12_onShelf wsX12_onShelf ({ frames := 3, cells := 0, slots := 0, locals := 66 }) (va_Pc [.ref h0, .int p0, .int p1, .int p2] (wPre (dC, dI) cy [(h0, .inr (12, [.int 0, .ref m1, .ref m2, .int 0, .ref m4, .ref m5, .ref m6, .ref m7, .ref m8, .int 0, .ref m10, .ref m11, .ref m12, .ref m13, .ref m14, .ref m15, .ref m16, .ref m17, .ref m18, .ref m19, .ref m20, .ref m21, .int 0, .ref m23, .ref m24, .ref m25, .ref m26, .ref m27, .ref m28, .int 0, .int 0, .ref m31, .int 0, .ref m33, .int 0, .ref m35, .int (-1), .ref m37, .int 0, .ref m39, .ref m40, .ref m41, .ref m42, .ref m43, .int 0, .int 0, .int 0, .int 0, .int 0, .int 0, .int 0, .int 0, .ref m52, .int 0, .ref m54, .int 0, .ref m56, .ref m57, .ref m58]))] sz)) (va_Qi (fun (r : Int32) (u : Unit) => r = -1) (fun (u : Unit) t => True) (va_A [(h0, .inr (12, [.int 0, .ref m1, .ref m2, .int 0, .ref m4, .ref m5, .ref m6, .ref m7, .ref m8, .int 0, .ref m10, .ref m11, .ref m12, .ref m13, .ref m14, .ref m15, .ref m16, .ref m17, .ref m18, .ref m19, .ref m20, .ref m21, .int 0, .ref m23, .ref m24, .ref m25, .ref m26, .ref m27, .ref m28, .int 0, .int 0, .ref m31, .int 0, .ref m33, .int 0, .ref m35, .int (-1), .ref m37, .int 0, .ref m39, .ref m40, .ref m41, .ref m42, .ref m43, .int 0, .int 0, .int 0, .int 0, .int 0, .int 0, .int 0, .int 0, .ref m52, .int 0, .ref m54, .int 0, .ref m56, .ref m57, .ref m58]))] sz)) 0 0 (va_A [(h0, .inr (12, [.int 0, .ref m1, .ref m2, .int 0, .ref m4, .ref m5, .ref m6, .ref m7, .ref m8, .int 0, .ref m10, .ref m11, .ref m12, .ref m13, .ref m14, .ref m15, .ref m16, .ref m17, .ref m18, .ref m19, .ref m20, .ref m21, .int 0, .ref m23, .ref m24, .ref m25, .ref m26, .ref m27, .ref m28, .int 0, .int 0, .ref m31, .int 0, .ref m33, .int 0, .ref m35, .int (-1), .ref m37, .int 0, .ref m39, .ref m40, .ref m41, .ref m42, .ref m43, .int 0, .int 0, .int 0, .int 0, .int 0, .int 0, .int 0, .int 0, .ref m52, .int 0, .ref m54, .int 0, .ref m56, .ref m57, .ref m58]))] sz) := by
  refine Met.ofW (cc := cX12_onShelf) (maxL := 5) (ret := (some .int)) (by decide) rfl ?_
  intro p e s m args below meth c s₁ B hml hv
  obtain ⟨rfl, hsz, hP, hK, hD0, hN⟩ := hv
  have hx := B.exec
  have hb := B.bytes
  have hr := B.returns
  have hts := atoms_spec (ws := wsX12_onShelf) B.pre
  have hown : s.vm.findClass RX12 = some m.cls := findClass_of_methodNamed B.named
  have hlocks := B.notSynchronized
  subst hsz
  have hD := hD0.self (sz := s.heap.size)
  generalize hAe : va_A [(h0, .inr (12, [.int 0, .ref m1, .ref m2, .int 0, .ref m4, .ref m5, .ref m6, .ref m7, .ref m8, .int 0, .ref m10, .ref m11, .ref m12, .ref m13, .ref m14, .ref m15, .ref m16, .ref m17, .ref m18, .ref m19, .ref m20, .ref m21, .int 0, .ref m23, .ref m24, .ref m25, .ref m26, .ref m27, .ref m28, .int 0, .int 0, .ref m31, .int 0, .ref m33, .int 0, .ref m35, .int (-1), .ref m37, .int 0, .ref m39, .ref m40, .ref m41, .ref m42, .ref m43, .int 0, .int 0, .int 0, .int 0, .int 0, .int 0, .int 0, .int 0, .ref m52, .int 0, .ref m54, .int 0, .ref m56, .ref m57, .ref m58]))] s.heap.size = A at hD ⊢
  have hA : ∀ q : Nat, s.heap.size ≤ q → A q := fun q h => by rw [← hAe]; exact Or.inr h
  have hS : va_S A s.heap s.heap [] := va_S.rf
  have hl := lv_entry ([.ref h0, .int p0, .int p1, .int p2]) (n := 5) (Nat.le_of_ble_eq_true rfl)
  rw [lg_entry_eq]
  generalize (lg_sl ([.ref h0, .int p0, .int p1, .int p2]) ++ List.replicate (5 - (lg_sl ([.ref h0, .int p0, .int p1, .int p2])).length) Slot.unset).toArray = ls at hl ⊢
  have hl : lv_has ls 5 [(0, .ref h0), (1, .int p0), (2, .int p1), (3, .int p2)] := hl
  refine lv_aload_n hx hb dX12_onShelf_0 rfl (lv_at hl 0 rfl) ?_
  refine lv_iload_n hx hb dX12_onShelf_1 rfl (lv_at hl 1 rfl) ?_
  have hPc := hP.sub (ws' := [(h0, .inr (12, [.int 0, .ref m1, .ref m2, .int 0, .ref m4, .ref m5, .ref m6, .ref m7, .ref m8, .int 0, .ref m10, .ref m11, .ref m12, .ref m13, .ref m14, .ref m15, .ref m16, .ref m17, .ref m18, .ref m19, .ref m20, .ref m21, .int 0, .ref m23, .ref m24, .ref m25, .ref m26, .ref m27, .ref m28, .int 0, .int 0, .ref m31, .int 0, .ref m33, .int 0, .ref m35, .int (-1), .ref m37, .int 0, .ref m39, .ref m40, .ref m41, .ref m42, .ref m43, .int 0, .int 0, .int 0, .int 0, .int 0, .int 0, .int 0, .int 0, .ref m52, .int 0, .ref m54, .int 0, .ref m56, .ref m57, .ref m58]))]) [0] rfl
  have hDc := hD.sub (ws' := [(h0, .inr (12, [.int 0, .ref m1, .ref m2, .int 0, .ref m4, .ref m5, .ref m6, .ref m7, .ref m8, .int 0, .ref m10, .ref m11, .ref m12, .ref m13, .ref m14, .ref m15, .ref m16, .ref m17, .ref m18, .ref m19, .ref m20, .ref m21, .int 0, .ref m23, .ref m24, .ref m25, .ref m26, .ref m27, .ref m28, .int 0, .int 0, .ref m31, .int 0, .ref m33, .int 0, .ref m35, .int (-1), .ref m37, .int 0, .ref m39, .ref m40, .ref m41, .ref m42, .ref m43, .int 0, .int 0, .int 0, .int 0, .int 0, .int 0, .int 0, .int 0, .ref m52, .int 0, .ref m54, .int 0, .ref m56, .ref m57, .ref m58]))]) [0] (by decide) rfl
  refine vz_callSi (va_runV (As := [.int p0]) (rest := []) ⟨hx, hb, hml, hown, hts⟩ (c_M_isKeeper l dC dI cy h0 m1 m2 m4 m5 m6 m7 m8 m10 m11 m12 m13 m14 m15 m16 m17 m18 m19 m20 m21 m23 m24 m25 m26 m27 m28 m31 m33 m35 m37 m39 m40 m41 m42 m43 m52 m54 m56 m57 m58 p0 s.heap.size) (cwV 1 hts gX12_onShelf_X12_isKeeper rfl rfl rfl (by decide +kernel) ⟨Nat.le_of_ble_eq_true rfl, Nat.le_of_ble_eq_true rfl⟩) (wp_V hK hN hPc hDc (va_recv hK hPc (ci := 12) (q0 := 0) rfl rfl)) rfl rfl hl.1 rfl (lv_room (Nat.le_of_ble_eq_true rfl)) dX12_onShelf_2 ⟨Nat.le_of_ble_eq_true rfl, Nat.le_of_ble_eq_true rfl⟩) (fun r_1 hw_1 => ?_)
  obtain rfl : r_1 = 0 := hw_1
  refine lv_if_eq (tgt := 16) hx hb dX12_onShelf_5 (by decide) (fun _ => ?_) (fun c_2 => absurd c_2 (by decide))
  refine lv_iconst (v := (-1)) hx hb dX12_onShelf_16 (by decide) ?_
  exact W.iret (v := (-1)) hx hb hr (fun t ht hW => ⟨⟨(-1), (), rfl, (by first | rfl | (exfalso; omega)), trivial⟩, hS.F ht⟩) hS.2.2 dX12_onShelf_17
set_option maxHeartbeats 4000000 in
set_option maxRecDepth 100000 in
theorem c_M_fall (l : Launch) (dC : Nat → ClassId) (dI : Nat → Nat → Nat) (cy : Nat → ClassId) (h0 : Nat) (m1 : Nat) (m2 : Nat) (m4 : Nat) (m5 : Nat) (m6 : Nat) (m7 : Nat) (m8 : Nat) (m10 : Nat) (m11 : Nat) (m12 : Nat) (m13 : Nat) (m14 : Nat) (m15 : Nat) (m16 : Nat) (m17 : Nat) (m18 : Nat) (m19 : Nat) (m20 : Nat) (m21 : Nat) (m23 : Nat) (m24 : Nat) (m25 : Nat) (m26 : Nat) (m27 : Nat) (m28 : Nat) (m31 : Nat) (m33 : Nat) (m35 : Nat) (m37 : Nat) (m39 : Nat) (m40 : Nat) (m41 : Nat) (m42 : Nat) (m43 : Nat) (m52 : Nat) (m54 : Nat) (m56 : Nat) (m57 : Nat) (m58 : Nat) (p0 : Int32) (p1 : Int32) (sz : Nat)  : Met l yX12_fall wsX12_fall ({ frames := 3, cells := 0, slots := 0, locals := 66 }) (va_Pc [.ref h0, .int p0, .int p1] (wPre (dC, dI) cy [(h0, .inr (12, [.int 0, .ref m1, .ref m2, .int 0, .ref m4, .ref m5, .ref m6, .ref m7, .ref m8, .int 0, .ref m10, .ref m11, .ref m12, .ref m13, .ref m14, .ref m15, .ref m16, .ref m17, .ref m18, .ref m19, .ref m20, .ref m21, .int 0, .ref m23, .ref m24, .ref m25, .ref m26, .ref m27, .ref m28, .int 0, .int 0, .ref m31, .int 0, .ref m33, .int 0, .ref m35, .int (-1), .ref m37, .int 0, .ref m39, .ref m40, .ref m41, .ref m42, .ref m43, .int 0, .int 0, .int 0, .int 0, .int 0, .int 0, .int 0, .int 0, .ref m52, .int 0, .ref m54, .int 0, .ref m56, .ref m57, .ref m58]))] sz)) (va_Qi (fun (r : Int32) (u : Unit) => r = -1) (fun (u : Unit) t => True) (va_A [(h0, .inr (12, [.int 0, .ref m1, .ref m2, .int 0, .ref m4, .ref m5, .ref m6, .ref m7, .ref m8, .int 0, .ref m10, .ref m11, .ref m12, .ref m13, .ref m14, .ref m15, .ref m16, .ref m17, .ref m18, .ref m19, .ref m20, .ref m21, .int 0, .ref m23, .ref m24, .ref m25, .ref m26, .ref m27, .ref m28, .int 0, .int 0, .ref m31, .int 0, .ref m33, .int 0, .ref m35, .int (-1), .ref m37, .int 0, .ref m39, .ref m40, .ref m41, .ref m42, .ref m43, .int 0, .int 0, .int 0, .int 0, .int 0, .int 0, .int 0, .int 0, .ref m52, .int 0, .ref m54, .int 0, .ref m56, .ref m57, .ref m58]))] sz)) 0 0 (va_A [(h0, .inr (12, [.int 0, .ref m1, .ref m2, .int 0, .ref m4, .ref m5, .ref m6, .ref m7, .ref m8, .int 0, .ref m10, .ref m11, .ref m12, .ref m13, .ref m14, .ref m15, .ref m16, .ref m17, .ref m18, .ref m19, .ref m20, .ref m21, .int 0, .ref m23, .ref m24, .ref m25, .ref m26, .ref m27, .ref m28, .int 0, .int 0, .ref m31, .int 0, .ref m33, .int 0, .ref m35, .int (-1), .ref m37, .int 0, .ref m39, .ref m40, .ref m41, .ref m42, .ref m43, .int 0, .int 0, .int 0, .int 0, .int 0, .int 0, .int 0, .int 0, .ref m52, .int 0, .ref m54, .int 0, .ref m56, .ref m57, .ref m58]))] sz) := by
  refine Met.ofW (cc := cX12_fall) (maxL := 5) (ret := (some .int)) (by decide) rfl ?_
  intro p e s m args below meth c s₁ B hml hv
  obtain ⟨rfl, hsz, hP, hK, hD0, hN⟩ := hv
  have hx := B.exec
  have hb := B.bytes
  have hr := B.returns
  have hts := atoms_spec (ws := wsX12_fall) B.pre
  have hown : s.vm.findClass RX12 = some m.cls := findClass_of_methodNamed B.named
  have hlocks := B.notSynchronized
  subst hsz
  have hD := hD0.self (sz := s.heap.size)
  generalize hAe : va_A [(h0, .inr (12, [.int 0, .ref m1, .ref m2, .int 0, .ref m4, .ref m5, .ref m6, .ref m7, .ref m8, .int 0, .ref m10, .ref m11, .ref m12, .ref m13, .ref m14, .ref m15, .ref m16, .ref m17, .ref m18, .ref m19, .ref m20, .ref m21, .int 0, .ref m23, .ref m24, .ref m25, .ref m26, .ref m27, .ref m28, .int 0, .int 0, .ref m31, .int 0, .ref m33, .int 0, .ref m35, .int (-1), .ref m37, .int 0, .ref m39, .ref m40, .ref m41, .ref m42, .ref m43, .int 0, .int 0, .int 0, .int 0, .int 0, .int 0, .int 0, .int 0, .ref m52, .int 0, .ref m54, .int 0, .ref m56, .ref m57, .ref m58]))] s.heap.size = A at hD ⊢
  have hA : ∀ q : Nat, s.heap.size ≤ q → A q := fun q h => by rw [← hAe]; exact Or.inr h
  have hS : va_S A s.heap s.heap [] := va_S.rf
  have hl := lv_entry ([.ref h0, .int p0, .int p1]) (n := 5) (Nat.le_of_ble_eq_true rfl)
  rw [lg_entry_eq]
  generalize (lg_sl ([.ref h0, .int p0, .int p1]) ++ List.replicate (5 - (lg_sl ([.ref h0, .int p0, .int p1])).length) Slot.unset).toArray = ls at hl ⊢
  have hl : lv_has ls 5 [(0, .ref h0), (1, .int p0), (2, .int p1)] := hl
  refine lv_aload_n hx hb dX12_fall_0 rfl (lv_at hl 0 rfl) ?_
  refine lv_iload_n hx hb dX12_fall_1 rfl (lv_at hl 1 rfl) ?_
  have hPc := hP.sub (ws' := [(h0, .inr (12, [.int 0, .ref m1, .ref m2, .int 0, .ref m4, .ref m5, .ref m6, .ref m7, .ref m8, .int 0, .ref m10, .ref m11, .ref m12, .ref m13, .ref m14, .ref m15, .ref m16, .ref m17, .ref m18, .ref m19, .ref m20, .ref m21, .int 0, .ref m23, .ref m24, .ref m25, .ref m26, .ref m27, .ref m28, .int 0, .int 0, .ref m31, .int 0, .ref m33, .int 0, .ref m35, .int (-1), .ref m37, .int 0, .ref m39, .ref m40, .ref m41, .ref m42, .ref m43, .int 0, .int 0, .int 0, .int 0, .int 0, .int 0, .int 0, .int 0, .ref m52, .int 0, .ref m54, .int 0, .ref m56, .ref m57, .ref m58]))]) [0] rfl
  have hDc := hD.sub (ws' := [(h0, .inr (12, [.int 0, .ref m1, .ref m2, .int 0, .ref m4, .ref m5, .ref m6, .ref m7, .ref m8, .int 0, .ref m10, .ref m11, .ref m12, .ref m13, .ref m14, .ref m15, .ref m16, .ref m17, .ref m18, .ref m19, .ref m20, .ref m21, .int 0, .ref m23, .ref m24, .ref m25, .ref m26, .ref m27, .ref m28, .int 0, .int 0, .ref m31, .int 0, .ref m33, .int 0, .ref m35, .int (-1), .ref m37, .int 0, .ref m39, .ref m40, .ref m41, .ref m42, .ref m43, .int 0, .int 0, .int 0, .int 0, .int 0, .int 0, .int 0, .int 0, .ref m52, .int 0, .ref m54, .int 0, .ref m56, .ref m57, .ref m58]))]) [0] (by decide) rfl
  refine vz_callSi (va_runV (As := [.int p0]) (rest := []) ⟨hx, hb, hml, hown, hts⟩ (c_M_isKeeper l dC dI cy h0 m1 m2 m4 m5 m6 m7 m8 m10 m11 m12 m13 m14 m15 m16 m17 m18 m19 m20 m21 m23 m24 m25 m26 m27 m28 m31 m33 m35 m37 m39 m40 m41 m42 m43 m52 m54 m56 m57 m58 p0 s.heap.size) (cwV 1 hts gX12_fall_X12_isKeeper rfl rfl rfl (by decide +kernel) ⟨Nat.le_of_ble_eq_true rfl, Nat.le_of_ble_eq_true rfl⟩) (wp_V hK hN hPc hDc (va_recv hK hPc (ci := 12) (q0 := 0) rfl rfl)) rfl rfl hl.1 rfl (lv_room (Nat.le_of_ble_eq_true rfl)) dX12_fall_2 ⟨Nat.le_of_ble_eq_true rfl, Nat.le_of_ble_eq_true rfl⟩) (fun r_1 hw_1 => ?_)
  obtain rfl : r_1 = 0 := hw_1
  refine lv_if_eq (tgt := 17) hx hb dX12_fall_5 (by decide) (fun _ => ?_) (fun c_2 => absurd c_2 (by decide))
  refine lv_iconst (v := (-1)) hx hb dX12_fall_17 (by decide) ?_
  change W _ _ _ _ _ _ _ _ _ _ _ _ _ _ _ (F0 m 18 ls [.int (-1)])
  exact W.iret (v := (-1)) hx hb hr (fun t ht hW => ⟨⟨(-1), (), rfl, (by first | rfl | (exfalso; omega)), trivial⟩, hS.F ht⟩) hS.2.2 dX12_fall_18
set_option maxHeartbeats 4000000 in
set_option maxRecDepth 100000 in
theorem c_M_half (l : Launch) (dC : Nat → ClassId) (dI : Nat → Nat → Nat) (cy : Nat → ClassId) (h0 : Nat) (m1 : Nat) (m2 : Nat) (m4 : Nat) (m5 : Nat) (m6 : Nat) (m7 : Nat) (m8 : Nat) (m10 : Nat) (m11 : Nat) (m12 : Nat) (m13 : Nat) (m14 : Nat) (m15 : Nat) (m16 : Nat) (m17 : Nat) (m18 : Nat) (m19 : Nat) (m20 : Nat) (m21 : Nat) (m23 : Nat) (m24 : Nat) (m25 : Nat) (m26 : Nat) (m27 : Nat) (m28 : Nat) (m31 : Nat) (m33 : Nat) (m35 : Nat) (m37 : Nat) (m39 : Nat) (m40 : Nat) (m41 : Nat) (m42 : Nat) (m43 : Nat) (m52 : Nat) (m54 : Nat) (m56 : Nat) (m57 : Nat) (m58 : Nat) (p0 : Int32) (p1 : Int32) (p2 : Int32) (sz : Nat)  : Met l yX12_half wsX12_half ({ frames := 3, cells := 0, slots := 0, locals := 66 }) (va_Pc [.ref h0, .int p0, .int p1, .int p2] (wPre (dC, dI) cy [(h0, .inr (12, [.int 0, .ref m1, .ref m2, .int 0, .ref m4, .ref m5, .ref m6, .ref m7, .ref m8, .int 0, .ref m10, .ref m11, .ref m12, .ref m13, .ref m14, .ref m15, .ref m16, .ref m17, .ref m18, .ref m19, .ref m20, .ref m21, .int 0, .ref m23, .ref m24, .ref m25, .ref m26, .ref m27, .ref m28, .int 0, .int 0, .ref m31, .int 0, .ref m33, .int 0, .ref m35, .int (-1), .ref m37, .int 0, .ref m39, .ref m40, .ref m41, .ref m42, .ref m43, .int 0, .int 0, .int 0, .int 0, .int 0, .int 0, .int 0, .int 0, .ref m52, .int 0, .ref m54, .int 0, .ref m56, .ref m57, .ref m58]))] sz)) (va_Qi (fun (r : Int32) (u : Unit) => r = -1) (fun (u : Unit) t => True) (va_A [(h0, .inr (12, [.int 0, .ref m1, .ref m2, .int 0, .ref m4, .ref m5, .ref m6, .ref m7, .ref m8, .int 0, .ref m10, .ref m11, .ref m12, .ref m13, .ref m14, .ref m15, .ref m16, .ref m17, .ref m18, .ref m19, .ref m20, .ref m21, .int 0, .ref m23, .ref m24, .ref m25, .ref m26, .ref m27, .ref m28, .int 0, .int 0, .ref m31, .int 0, .ref m33, .int 0, .ref m35, .int (-1), .ref m37, .int 0, .ref m39, .ref m40, .ref m41, .ref m42, .ref m43, .int 0, .int 0, .int 0, .int 0, .int 0, .int 0, .int 0, .int 0, .ref m52, .int 0, .ref m54, .int 0, .ref m56, .ref m57, .ref m58]))] sz)) 0 0 (va_A [(h0, .inr (12, [.int 0, .ref m1, .ref m2, .int 0, .ref m4, .ref m5, .ref m6, .ref m7, .ref m8, .int 0, .ref m10, .ref m11, .ref m12, .ref m13, .ref m14, .ref m15, .ref m16, .ref m17, .ref m18, .ref m19, .ref m20, .ref m21, .int 0, .ref m23, .ref m24, .ref m25, .ref m26, .ref m27, .ref m28, .int 0, .int 0, .ref m31, .int 0, .ref m33, .int 0, .ref m35, .int (-1), .ref m37, .int 0, .ref m39, .ref m40, .ref m41, .ref m42, .ref m43, .int 0, .int 0, .int 0, .int 0, .int 0, .int 0, .int 0, .int 0, .ref m52, .int 0, .ref m54, .int 0, .ref m56, .ref m57, .ref m58]))] sz) := by
  refine Met.ofW (cc := cX12_half) (maxL := 6) (ret := (some .int)) (by decide) rfl ?_
  intro p e s m args below meth c s₁ B hml hv
  obtain ⟨rfl, hsz, hP, hK, hD0, hN⟩ := hv
  have hx := B.exec
  have hb := B.bytes
  have hr := B.returns
  have hts := atoms_spec (ws := wsX12_half) B.pre
  have hown : s.vm.findClass RX12 = some m.cls := findClass_of_methodNamed B.named
  have hlocks := B.notSynchronized
  subst hsz
  have hD := hD0.self (sz := s.heap.size)
  generalize hAe : va_A [(h0, .inr (12, [.int 0, .ref m1, .ref m2, .int 0, .ref m4, .ref m5, .ref m6, .ref m7, .ref m8, .int 0, .ref m10, .ref m11, .ref m12, .ref m13, .ref m14, .ref m15, .ref m16, .ref m17, .ref m18, .ref m19, .ref m20, .ref m21, .int 0, .ref m23, .ref m24, .ref m25, .ref m26, .ref m27, .ref m28, .int 0, .int 0, .ref m31, .int 0, .ref m33, .int 0, .ref m35, .int (-1), .ref m37, .int 0, .ref m39, .ref m40, .ref m41, .ref m42, .ref m43, .int 0, .int 0, .int 0, .int 0, .int 0, .int 0, .int 0, .int 0, .ref m52, .int 0, .ref m54, .int 0, .ref m56, .ref m57, .ref m58]))] s.heap.size = A at hD ⊢
  have hA : ∀ q : Nat, s.heap.size ≤ q → A q := fun q h => by rw [← hAe]; exact Or.inr h
  have hS : va_S A s.heap s.heap [] := va_S.rf
  have hl := lv_entry ([.ref h0, .int p0, .int p1, .int p2]) (n := 6) (Nat.le_of_ble_eq_true rfl)
  rw [lg_entry_eq]
  generalize (lg_sl ([.ref h0, .int p0, .int p1, .int p2]) ++ List.replicate (6 - (lg_sl ([.ref h0, .int p0, .int p1, .int p2])).length) Slot.unset).toArray = ls at hl ⊢
  have hl : lv_has ls 6 [(0, .ref h0), (1, .int p0), (2, .int p1), (3, .int p2)] := hl
  refine lv_aload_n hx hb dX12_half_0 rfl (lv_at hl 0 rfl) ?_
  refine lv_iload_n hx hb dX12_half_1 rfl (lv_at hl 1 rfl) ?_
  have hPc := hP.sub (ws' := [(h0, .inr (12, [.int 0, .ref m1, .ref m2, .int 0, .ref m4, .ref m5, .ref m6, .ref m7, .ref m8, .int 0, .ref m10, .ref m11, .ref m12, .ref m13, .ref m14, .ref m15, .ref m16, .ref m17, .ref m18, .ref m19, .ref m20, .ref m21, .int 0, .ref m23, .ref m24, .ref m25, .ref m26, .ref m27, .ref m28, .int 0, .int 0, .ref m31, .int 0, .ref m33, .int 0, .ref m35, .int (-1), .ref m37, .int 0, .ref m39, .ref m40, .ref m41, .ref m42, .ref m43, .int 0, .int 0, .int 0, .int 0, .int 0, .int 0, .int 0, .int 0, .ref m52, .int 0, .ref m54, .int 0, .ref m56, .ref m57, .ref m58]))]) [0] rfl
  have hDc := hD.sub (ws' := [(h0, .inr (12, [.int 0, .ref m1, .ref m2, .int 0, .ref m4, .ref m5, .ref m6, .ref m7, .ref m8, .int 0, .ref m10, .ref m11, .ref m12, .ref m13, .ref m14, .ref m15, .ref m16, .ref m17, .ref m18, .ref m19, .ref m20, .ref m21, .int 0, .ref m23, .ref m24, .ref m25, .ref m26, .ref m27, .ref m28, .int 0, .int 0, .ref m31, .int 0, .ref m33, .int 0, .ref m35, .int (-1), .ref m37, .int 0, .ref m39, .ref m40, .ref m41, .ref m42, .ref m43, .int 0, .int 0, .int 0, .int 0, .int 0, .int 0, .int 0, .int 0, .ref m52, .int 0, .ref m54, .int 0, .ref m56, .ref m57, .ref m58]))]) [0] (by decide) rfl
  refine vz_callSi (va_runV (As := [.int p0]) (rest := []) ⟨hx, hb, hml, hown, hts⟩ (c_M_isName l dC dI cy h0 m1 m2 m4 m5 m6 m7 m8 m10 m11 m12 m13 m14 m15 m16 m17 m18 m19 m20 m21 m23 m24 m25 m26 m27 m28 m31 m33 m35 m37 m39 m40 m41 m42 m43 m52 m54 m56 m57 m58 p0 s.heap.size) (cwV 1 hts gX12_half_X12_isName rfl rfl rfl (by decide +kernel) ⟨Nat.le_of_ble_eq_true rfl, Nat.le_of_ble_eq_true rfl⟩) (wp_V hK hN hPc hDc (va_recv hK hPc (ci := 12) (q0 := 0) rfl rfl)) rfl rfl hl.1 rfl (lv_room (Nat.le_of_ble_eq_true rfl)) dX12_half_2 ⟨Nat.le_of_ble_eq_true rfl, Nat.le_of_ble_eq_true rfl⟩) (fun r_1 hw_1 => ?_)
  obtain rfl : r_1 = 0 := hw_1
  change W _ _ _ _ _ _ _ _ _ _ _ _ _ _ _ (F0 m 5 ls [.int 0])
  refine lv_if_eq (tgt := 29) hx hb dX12_half_5 (by decide) (fun _ => ?_) (fun c_2 => absurd c_2 (by decide))
  refine lv_iconst (v := (-1)) hx hb dX12_half_29 (by decide) ?_
  exact W.iret (v := (-1)) hx hb hr (fun t ht hW => ⟨⟨(-1), (), rfl, (by first | rfl | (exfalso; omega)), trivial⟩, hS.F ht⟩) hS.2.2 dX12_half_30
set_option maxHeartbeats 4000000 in
set_option maxRecDepth 100000 in
theorem c_M_trees (l : Launch) (dC : Nat → ClassId) (dI : Nat → Nat → Nat) (cy : Nat → ClassId) (h0 : Nat) (m1 : Nat) (m2 : Nat) (m4 : Nat) (m5 : Nat) (m6 : Nat) (m7 : Nat) (m8 : Nat) (m10 : Nat) (m11 : Nat) (m12 : Nat) (m13 : Nat) (m14 : Nat) (m15 : Nat) (m16 : Nat) (m17 : Nat) (m18 : Nat) (m19 : Nat) (m20 : Nat) (m21 : Nat) (m23 : Nat) (m24 : Nat) (m25 : Nat) (m26 : Nat) (m27 : Nat) (m28 : Nat) (m31 : Nat) (m33 : Nat) (m35 : Nat) (m37 : Nat) (m39 : Nat) (m40 : Nat) (m41 : Nat) (m42 : Nat) (m43 : Nat) (m52 : Nat) (m54 : Nat) (m56 : Nat) (m57 : Nat) (m58 : Nat) (p0 : Int32) (p1 : Int32) (p2 : Int32) (sz : Nat)  : Met l yX12_trees wsX12_trees ({ frames := 3, cells := 0, slots := 0, locals := 66 }) (va_Pc [.ref h0, .int p0, .int p1, .int p2] (wPre (dC, dI) cy [(h0, .inr (12, [.int 0, .ref m1, .ref m2, .int 0, .ref m4, .ref m5, .ref m6, .ref m7, .ref m8, .int 0, .ref m10, .ref m11, .ref m12, .ref m13, .ref m14, .ref m15, .ref m16, .ref m17, .ref m18, .ref m19, .ref m20, .ref m21, .int 0, .ref m23, .ref m24, .ref m25, .ref m26, .ref m27, .ref m28, .int 0, .int 0, .ref m31, .int 0, .ref m33, .int 0, .ref m35, .int (-1), .ref m37, .int 0, .ref m39, .ref m40, .ref m41, .ref m42, .ref m43, .int 0, .int 0, .int 0, .int 0, .int 0, .int 0, .int 0, .int 0, .ref m52, .int 0, .ref m54, .int 0, .ref m56, .ref m57, .ref m58]))] sz)) (va_Qi (fun (r : Int32) (u : Unit) => r = -1) (fun (u : Unit) t => True) (va_A [(h0, .inr (12, [.int 0, .ref m1, .ref m2, .int 0, .ref m4, .ref m5, .ref m6, .ref m7, .ref m8, .int 0, .ref m10, .ref m11, .ref m12, .ref m13, .ref m14, .ref m15, .ref m16, .ref m17, .ref m18, .ref m19, .ref m20, .ref m21, .int 0, .ref m23, .ref m24, .ref m25, .ref m26, .ref m27, .ref m28, .int 0, .int 0, .ref m31, .int 0, .ref m33, .int 0, .ref m35, .int (-1), .ref m37, .int 0, .ref m39, .ref m40, .ref m41, .ref m42, .ref m43, .int 0, .int 0, .int 0, .int 0, .int 0, .int 0, .int 0, .int 0, .ref m52, .int 0, .ref m54, .int 0, .ref m56, .ref m57, .ref m58]))] sz)) 0 0 (va_A [(h0, .inr (12, [.int 0, .ref m1, .ref m2, .int 0, .ref m4, .ref m5, .ref m6, .ref m7, .ref m8, .int 0, .ref m10, .ref m11, .ref m12, .ref m13, .ref m14, .ref m15, .ref m16, .ref m17, .ref m18, .ref m19, .ref m20, .ref m21, .int 0, .ref m23, .ref m24, .ref m25, .ref m26, .ref m27, .ref m28, .int 0, .int 0, .ref m31, .int 0, .ref m33, .int 0, .ref m35, .int (-1), .ref m37, .int 0, .ref m39, .ref m40, .ref m41, .ref m42, .ref m43, .int 0, .int 0, .int 0, .int 0, .int 0, .int 0, .int 0, .int 0, .ref m52, .int 0, .ref m54, .int 0, .ref m56, .ref m57, .ref m58]))] sz) := by
  refine Met.ofW (cc := cX12_trees) (maxL := 6) (ret := (some .int)) (by decide) rfl ?_
  intro p e s m args below meth c s₁ B hml hv
  obtain ⟨rfl, hsz, hP, hK, hD0, hN⟩ := hv
  have hx := B.exec
  have hb := B.bytes
  have hr := B.returns
  have hts := atoms_spec (ws := wsX12_trees) B.pre
  have hown : s.vm.findClass RX12 = some m.cls := findClass_of_methodNamed B.named
  have hlocks := B.notSynchronized
  subst hsz
  have hD := hD0.self (sz := s.heap.size)
  generalize hAe : va_A [(h0, .inr (12, [.int 0, .ref m1, .ref m2, .int 0, .ref m4, .ref m5, .ref m6, .ref m7, .ref m8, .int 0, .ref m10, .ref m11, .ref m12, .ref m13, .ref m14, .ref m15, .ref m16, .ref m17, .ref m18, .ref m19, .ref m20, .ref m21, .int 0, .ref m23, .ref m24, .ref m25, .ref m26, .ref m27, .ref m28, .int 0, .int 0, .ref m31, .int 0, .ref m33, .int 0, .ref m35, .int (-1), .ref m37, .int 0, .ref m39, .ref m40, .ref m41, .ref m42, .ref m43, .int 0, .int 0, .int 0, .int 0, .int 0, .int 0, .int 0, .int 0, .ref m52, .int 0, .ref m54, .int 0, .ref m56, .ref m57, .ref m58]))] s.heap.size = A at hD ⊢
  have hA : ∀ q : Nat, s.heap.size ≤ q → A q := fun q h => by rw [← hAe]; exact Or.inr h
  have hS : va_S A s.heap s.heap [] := va_S.rf
  have hl := lv_entry ([.ref h0, .int p0, .int p1, .int p2]) (n := 6) (Nat.le_of_ble_eq_true rfl)
  rw [lg_entry_eq]
  generalize (lg_sl ([.ref h0, .int p0, .int p1, .int p2]) ++ List.replicate (6 - (lg_sl ([.ref h0, .int p0, .int p1, .int p2])).length) Slot.unset).toArray = ls at hl ⊢
  have hl : lv_has ls 6 [(0, .ref h0), (1, .int p0), (2, .int p1), (3, .int p2)] := hl
  refine lv_aload_n hx hb dX12_trees_0 rfl (lv_at hl 0 rfl) ?_
  change W _ _ _ _ _ _ _ _ _ _ _ _ _ _ _ (F0 m 1 ls [.ref h0])
  refine lv_iload_n hx hb dX12_trees_1 rfl (lv_at hl 1 rfl) ?_
  have hPc := hP.sub (ws' := [(h0, .inr (12, [.int 0, .ref m1, .ref m2, .int 0, .ref m4, .ref m5, .ref m6, .ref m7, .ref m8, .int 0, .ref m10, .ref m11, .ref m12, .ref m13, .ref m14, .ref m15, .ref m16, .ref m17, .ref m18, .ref m19, .ref m20, .ref m21, .int 0, .ref m23, .ref m24, .ref m25, .ref m26, .ref m27, .ref m28, .int 0, .int 0, .ref m31, .int 0, .ref m33, .int 0, .ref m35, .int (-1), .ref m37, .int 0, .ref m39, .ref m40, .ref m41, .ref m42, .ref m43, .int 0, .int 0, .int 0, .int 0, .int 0, .int 0, .int 0, .int 0, .ref m52, .int 0, .ref m54, .int 0, .ref m56, .ref m57, .ref m58]))]) [0] rfl
  have hDc := hD.sub (ws' := [(h0, .inr (12, [.int 0, .ref m1, .ref m2, .int 0, .ref m4, .ref m5, .ref m6, .ref m7, .ref m8, .int 0, .ref m10, .ref m11, .ref m12, .ref m13, .ref m14, .ref m15, .ref m16, .ref m17, .ref m18, .ref m19, .ref m20, .ref m21, .int 0, .ref m23, .ref m24, .ref m25, .ref m26, .ref m27, .ref m28, .int 0, .int 0, .ref m31, .int 0, .ref m33, .int 0, .ref m35, .int (-1), .ref m37, .int 0, .ref m39, .ref m40, .ref m41, .ref m42, .ref m43, .int 0, .int 0, .int 0, .int 0, .int 0, .int 0, .int 0, .int 0, .ref m52, .int 0, .ref m54, .int 0, .ref m56, .ref m57, .ref m58]))]) [0] (by decide) rfl
  refine vz_callSi (va_runV (As := [.int p0]) (rest := []) ⟨hx, hb, hml, hown, hts⟩ (c_M_isKeeper l dC dI cy h0 m1 m2 m4 m5 m6 m7 m8 m10 m11 m12 m13 m14 m15 m16 m17 m18 m19 m20 m21 m23 m24 m25 m26 m27 m28 m31 m33 m35 m37 m39 m40 m41 m42 m43 m52 m54 m56 m57 m58 p0 s.heap.size) (cwV 1 hts gX12_trees_X12_isKeeper rfl rfl rfl (by decide +kernel) ⟨Nat.le_of_ble_eq_true rfl, Nat.le_of_ble_eq_true rfl⟩) (wp_V hK hN hPc hDc (va_recv hK hPc (ci := 12) (q0 := 0) rfl rfl)) rfl rfl hl.1 rfl (lv_room (Nat.le_of_ble_eq_true rfl)) dX12_trees_2 ⟨Nat.le_of_ble_eq_true rfl, Nat.le_of_ble_eq_true rfl⟩) (fun r_1 hw_1 => ?_)
  obtain rfl : r_1 = 0 := hw_1
  refine lv_if_eq (tgt := 30) hx hb dX12_trees_5 (by decide) (fun _ => ?_) (fun c_2 => absurd c_2 (by decide))
  refine lv_iconst (v := (-1)) hx hb dX12_trees_30 (by decide) ?_
  exact W.iret (v := (-1)) hx hb hr (fun t ht hW => ⟨⟨(-1), (), rfl, (by first | rfl | (exfalso; omega)), trivial⟩, hS.F ht⟩) hS.2.2 dX12_trees_31
set_option maxHeartbeats 4000000 in
set_option maxRecDepth 100000 in
theorem c_M_lies (l : Launch) (dC : Nat → ClassId) (dI : Nat → Nat → Nat) (cy : Nat → ClassId) (h0 : Nat) (m1 : Nat) (m2 : Nat) (m4 : Nat) (m5 : Nat) (m6 : Nat) (m7 : Nat) (m8 : Nat) (m10 : Nat) (m11 : Nat) (m12 : Nat) (m13 : Nat) (m14 : Nat) (m15 : Nat) (m16 : Nat) (m17 : Nat) (m18 : Nat) (m19 : Nat) (m20 : Nat) (m21 : Nat) (m23 : Nat) (m24 : Nat) (m25 : Nat) (m26 : Nat) (m27 : Nat) (m28 : Nat) (m31 : Nat) (m33 : Nat) (m35 : Nat) (m37 : Nat) (m39 : Nat) (m40 : Nat) (m41 : Nat) (m42 : Nat) (m43 : Nat) (m52 : Nat) (m54 : Nat) (m56 : Nat) (m57 : Nat) (m58 : Nat) (p0 : Int32) (p1 : Int32) (p2 : Int32) (p3 : Int32) (sz : Nat)  : Met l yX12_lies wsX12_lies ({ frames := 3, cells := 0, slots := 0, locals := 66 }) (va_Pc [.ref h0, .int p0, .int p1, .int p2, .int p3] (wPre (dC, dI) cy [(h0, .inr (12, [.int 0, .ref m1, .ref m2, .int 0, .ref m4, .ref m5, .ref m6, .ref m7, .ref m8, .int 0, .ref m10, .ref m11, .ref m12, .ref m13, .ref m14, .ref m15, .ref m16, .ref m17, .ref m18, .ref m19, .ref m20, .ref m21, .int 0, .ref m23, .ref m24, .ref m25, .ref m26, .ref m27, .ref m28, .int 0, .int 0, .ref m31, .int 0, .ref m33, .int 0, .ref m35, .int (-1), .ref m37, .int 0, .ref m39, .ref m40, .ref m41, .ref m42, .ref m43, .int 0, .int 0, .int 0, .int 0, .int 0, .int 0, .int 0, .int 0, .ref m52, .int 0, .ref m54, .int 0, .ref m56, .ref m57, .ref m58]))] sz)) (va_Qi (fun (r : Int32) (u : Unit) => r = -1) (fun (u : Unit) t => True) (va_A [(h0, .inr (12, [.int 0, .ref m1, .ref m2, .int 0, .ref m4, .ref m5, .ref m6, .ref m7, .ref m8, .int 0, .ref m10, .ref m11, .ref m12, .ref m13, .ref m14, .ref m15, .ref m16, .ref m17, .ref m18, .ref m19, .ref m20, .ref m21, .int 0, .ref m23, .ref m24, .ref m25, .ref m26, .ref m27, .ref m28, .int 0, .int 0, .ref m31, .int 0, .ref m33, .int 0, .ref m35, .int (-1), .ref m37, .int 0, .ref m39, .ref m40, .ref m41, .ref m42, .ref m43, .int 0, .int 0, .int 0, .int 0, .int 0, .int 0, .int 0, .int 0, .ref m52, .int 0, .ref m54, .int 0, .ref m56, .ref m57, .ref m58]))] sz)) 0 0 (va_A [(h0, .inr (12, [.int 0, .ref m1, .ref m2, .int 0, .ref m4, .ref m5, .ref m6, .ref m7, .ref m8, .int 0, .ref m10, .ref m11, .ref m12, .ref m13, .ref m14, .ref m15, .ref m16, .ref m17, .ref m18, .ref m19, .ref m20, .ref m21, .int 0, .ref m23, .ref m24, .ref m25, .ref m26, .ref m27, .ref m28, .int 0, .int 0, .ref m31, .int 0, .ref m33, .int 0, .ref m35, .int (-1), .ref m37, .int 0, .ref m39, .ref m40, .ref m41, .ref m42, .ref m43, .int 0, .int 0, .int 0, .int 0, .int 0, .int 0, .int 0, .int 0, .ref m52, .int 0, .ref m54, .int 0, .ref m56, .ref m57, .ref m58]))] sz) := by
  refine Met.ofW (cc := cX12_lies) (maxL := 6) (ret := (some .int)) (by decide) rfl ?_
  intro p e s m args below meth c s₁ B hml hv
  obtain ⟨rfl, hsz, hP, hK, hD0, hN⟩ := hv
  have hx := B.exec
  have hb := B.bytes
  have hr := B.returns
  have hts := atoms_spec (ws := wsX12_lies) B.pre
  have hown : s.vm.findClass RX12 = some m.cls := findClass_of_methodNamed B.named
  have hlocks := B.notSynchronized
  subst hsz
  have hD := hD0.self (sz := s.heap.size)
  generalize hAe : va_A [(h0, .inr (12, [.int 0, .ref m1, .ref m2, .int 0, .ref m4, .ref m5, .ref m6, .ref m7, .ref m8, .int 0, .ref m10, .ref m11, .ref m12, .ref m13, .ref m14, .ref m15, .ref m16, .ref m17, .ref m18, .ref m19, .ref m20, .ref m21, .int 0, .ref m23, .ref m24, .ref m25, .ref m26, .ref m27, .ref m28, .int 0, .int 0, .ref m31, .int 0, .ref m33, .int 0, .ref m35, .int (-1), .ref m37, .int 0, .ref m39, .ref m40, .ref m41, .ref m42, .ref m43, .int 0, .int 0, .int 0, .int 0, .int 0, .int 0, .int 0, .int 0, .ref m52, .int 0, .ref m54, .int 0, .ref m56, .ref m57, .ref m58]))] s.heap.size = A at hD ⊢
  have hA : ∀ q : Nat, s.heap.size ≤ q → A q := fun q h => by rw [← hAe]; exact Or.inr h
  have hS : va_S A s.heap s.heap [] := va_S.rf
  have hl := lv_entry ([.ref h0, .int p0, .int p1, .int p2, .int p3]) (n := 6) (Nat.le_of_ble_eq_true rfl)
  rw [lg_entry_eq]
  generalize (lg_sl ([.ref h0, .int p0, .int p1, .int p2, .int p3]) ++ List.replicate (6 - (lg_sl ([.ref h0, .int p0, .int p1, .int p2, .int p3])).length) Slot.unset).toArray = ls at hl ⊢
  have hl : lv_has ls 6 [(0, .ref h0), (1, .int p0), (2, .int p1), (3, .int p2), (4, .int p3)] := hl
  refine lv_aload_n hx hb dX12_lies_0 rfl (lv_at hl 0 rfl) ?_
  refine lv_iload_n hx hb dX12_lies_1 rfl (lv_at hl 1 rfl) ?_
  have hPc := hP.sub (ws' := [(h0, .inr (12, [.int 0, .ref m1, .ref m2, .int 0, .ref m4, .ref m5, .ref m6, .ref m7, .ref m8, .int 0, .ref m10, .ref m11, .ref m12, .ref m13, .ref m14, .ref m15, .ref m16, .ref m17, .ref m18, .ref m19, .ref m20, .ref m21, .int 0, .ref m23, .ref m24, .ref m25, .ref m26, .ref m27, .ref m28, .int 0, .int 0, .ref m31, .int 0, .ref m33, .int 0, .ref m35, .int (-1), .ref m37, .int 0, .ref m39, .ref m40, .ref m41, .ref m42, .ref m43, .int 0, .int 0, .int 0, .int 0, .int 0, .int 0, .int 0, .int 0, .ref m52, .int 0, .ref m54, .int 0, .ref m56, .ref m57, .ref m58]))]) [0] rfl
  have hDc := hD.sub (ws' := [(h0, .inr (12, [.int 0, .ref m1, .ref m2, .int 0, .ref m4, .ref m5, .ref m6, .ref m7, .ref m8, .int 0, .ref m10, .ref m11, .ref m12, .ref m13, .ref m14, .ref m15, .ref m16, .ref m17, .ref m18, .ref m19, .ref m20, .ref m21, .int 0, .ref m23, .ref m24, .ref m25, .ref m26, .ref m27, .ref m28, .int 0, .int 0, .ref m31, .int 0, .ref m33, .int 0, .ref m35, .int (-1), .ref m37, .int 0, .ref m39, .ref m40, .ref m41, .ref m42, .ref m43, .int 0, .int 0, .int 0, .int 0, .int 0, .int 0, .int 0, .int 0, .ref m52, .int 0, .ref m54, .int 0, .ref m56, .ref m57, .ref m58]))]) [0] (by decide) rfl
  refine vz_callSi (va_runV (As := [.int p0]) (rest := []) ⟨hx, hb, hml, hown, hts⟩ (c_M_isKeeper l dC dI cy h0 m1 m2 m4 m5 m6 m7 m8 m10 m11 m12 m13 m14 m15 m16 m17 m18 m19 m20 m21 m23 m24 m25 m26 m27 m28 m31 m33 m35 m37 m39 m40 m41 m42 m43 m52 m54 m56 m57 m58 p0 s.heap.size) (cwV 1 hts gX12_lies_X12_isKeeper rfl rfl rfl (by decide +kernel) ⟨Nat.le_of_ble_eq_true rfl, Nat.le_of_ble_eq_true rfl⟩) (wp_V hK hN hPc hDc (va_recv hK hPc (ci := 12) (q0 := 0) rfl rfl)) rfl rfl hl.1 rfl (lv_room (Nat.le_of_ble_eq_true rfl)) dX12_lies_2 ⟨Nat.le_of_ble_eq_true rfl, Nat.le_of_ble_eq_true rfl⟩) (fun r_1 hw_1 => ?_)
  obtain rfl : r_1 = 0 := hw_1
  refine lv_if_eq (tgt := 43) hx hb dX12_lies_5 (by decide) (fun _ => ?_) (fun c_2 => absurd c_2 (by decide))
  refine lv_iconst (v := (-1)) hx hb dX12_lies_43 (by decide) ?_
  exact W.iret (v := (-1)) hx hb hr (fun t ht hW => ⟨⟨(-1), (), rfl, (by first | rfl | (exfalso; omega)), trivial⟩, hS.F ht⟩) hS.2.2 dX12_lies_44
set_option maxHeartbeats 4000000 in
set_option maxRecDepth 100000 in
theorem c_M_comes (l : Launch) (dC : Nat → ClassId) (dI : Nat → Nat → Nat) (cy : Nat → ClassId) (h0 : Nat) (m1 : Nat) (m2 : Nat) (m4 : Nat) (m5 : Nat) (m6 : Nat) (m7 : Nat) (m8 : Nat) (m10 : Nat) (m11 : Nat) (m12 : Nat) (m13 : Nat) (m14 : Nat) (m15 : Nat) (m16 : Nat) (m17 : Nat) (m18 : Nat) (m19 : Nat) (m20 : Nat) (m21 : Nat) (m23 : Nat) (m24 : Nat) (m25 : Nat) (m26 : Nat) (m27 : Nat) (m28 : Nat) (m31 : Nat) (m33 : Nat) (m35 : Nat) (m37 : Nat) (m39 : Nat) (m40 : Nat) (m41 : Nat) (m42 : Nat) (m43 : Nat) (m52 : Nat) (m54 : Nat) (m56 : Nat) (m57 : Nat) (m58 : Nat) (p0 : Int32) (sz : Nat)  : Met l yX12_comes wsX12_comes ({ frames := 3, cells := 0, slots := 0, locals := 66 }) (va_Pc [.ref h0, .int p0] (wPre (dC, dI) cy [(h0, .inr (12, [.int 0, .ref m1, .ref m2, .int 0, .ref m4, .ref m5, .ref m6, .ref m7, .ref m8, .int 0, .ref m10, .ref m11, .ref m12, .ref m13, .ref m14, .ref m15, .ref m16, .ref m17, .ref m18, .ref m19, .ref m20, .ref m21, .int 0, .ref m23, .ref m24, .ref m25, .ref m26, .ref m27, .ref m28, .int 0, .int 0, .ref m31, .int 0, .ref m33, .int 0, .ref m35, .int (-1), .ref m37, .int 0, .ref m39, .ref m40, .ref m41, .ref m42, .ref m43, .int 0, .int 0, .int 0, .int 0, .int 0, .int 0, .int 0, .int 0, .ref m52, .int 0, .ref m54, .int 0, .ref m56, .ref m57, .ref m58]))] sz)) (va_Qi (fun (r : Int32) (u : Unit) => r = -1) (fun (u : Unit) t => True) (va_A [(h0, .inr (12, [.int 0, .ref m1, .ref m2, .int 0, .ref m4, .ref m5, .ref m6, .ref m7, .ref m8, .int 0, .ref m10, .ref m11, .ref m12, .ref m13, .ref m14, .ref m15, .ref m16, .ref m17, .ref m18, .ref m19, .ref m20, .ref m21, .int 0, .ref m23, .ref m24, .ref m25, .ref m26, .ref m27, .ref m28, .int 0, .int 0, .ref m31, .int 0, .ref m33, .int 0, .ref m35, .int (-1), .ref m37, .int 0, .ref m39, .ref m40, .ref m41, .ref m42, .ref m43, .int 0, .int 0, .int 0, .int 0, .int 0, .int 0, .int 0, .int 0, .ref m52, .int 0, .ref m54, .int 0, .ref m56, .ref m57, .ref m58]))] sz)) 0 0 (va_A [(h0, .inr (12, [.int 0, .ref m1, .ref m2, .int 0, .ref m4, .ref m5, .ref m6, .ref m7, .ref m8, .int 0, .ref m10, .ref m11, .ref m12, .ref m13, .ref m14, .ref m15, .ref m16, .ref m17, .ref m18, .ref m19, .ref m20, .ref m21, .int 0, .ref m23, .ref m24, .ref m25, .ref m26, .ref m27, .ref m28, .int 0, .int 0, .ref m31, .int 0, .ref m33, .int 0, .ref m35, .int (-1), .ref m37, .int 0, .ref m39, .ref m40, .ref m41, .ref m42, .ref m43, .int 0, .int 0, .int 0, .int 0, .int 0, .int 0, .int 0, .int 0, .ref m52, .int 0, .ref m54, .int 0, .ref m56, .ref m57, .ref m58]))] sz) := by
  refine Met.ofW (cc := cX12_comes) (maxL := 2) (ret := (some .int)) (by decide) rfl ?_
  intro p e s m args below meth c s₁ B hml hv
  obtain ⟨rfl, hsz, hP, hK, hD0, hN⟩ := hv
  have hx := B.exec
  have hb := B.bytes
  have hr := B.returns
  have hts := atoms_spec (ws := wsX12_comes) B.pre
  have hown : s.vm.findClass RX12 = some m.cls := findClass_of_methodNamed B.named
  have hlocks := B.notSynchronized
  subst hsz
  have hD := hD0.self (sz := s.heap.size)
  generalize hAe : va_A [(h0, .inr (12, [.int 0, .ref m1, .ref m2, .int 0, .ref m4, .ref m5, .ref m6, .ref m7, .ref m8, .int 0, .ref m10, .ref m11, .ref m12, .ref m13, .ref m14, .ref m15, .ref m16, .ref m17, .ref m18, .ref m19, .ref m20, .ref m21, .int 0, .ref m23, .ref m24, .ref m25, .ref m26, .ref m27, .ref m28, .int 0, .int 0, .ref m31, .int 0, .ref m33, .int 0, .ref m35, .int (-1), .ref m37, .int 0, .ref m39, .ref m40, .ref m41, .ref m42, .ref m43, .int 0, .int 0, .int 0, .int 0, .int 0, .int 0, .int 0, .int 0, .ref m52, .int 0, .ref m54, .int 0, .ref m56, .ref m57, .ref m58]))] s.heap.size = A at hD ⊢
  have hA : ∀ q : Nat, s.heap.size ≤ q → A q := fun q h => by rw [← hAe]; exact Or.inr h
  have hS : va_S A s.heap s.heap [] := va_S.rf
  have hl := lv_entry ([.ref h0, .int p0]) (n := 2) (Nat.le_of_ble_eq_true rfl)
  rw [lg_entry_eq]
  generalize (lg_sl ([.ref h0, .int p0]) ++ List.replicate (2 - (lg_sl ([.ref h0, .int p0])).length) Slot.unset).toArray = ls at hl ⊢
  have hl : lv_has ls 2 [(0, .ref h0), (1, .int p0)] := hl
  refine lv_aload_n hx hb dX12_comes_0 rfl (lv_at hl 0 rfl) ?_
  refine lv_iload_n hx hb dX12_comes_1 rfl (lv_at hl 1 rfl) ?_
  have hPc := hP.sub (ws' := [(h0, .inr (12, [.int 0, .ref m1, .ref m2, .int 0, .ref m4, .ref m5, .ref m6, .ref m7, .ref m8, .int 0, .ref m10, .ref m11, .ref m12, .ref m13, .ref m14, .ref m15, .ref m16, .ref m17, .ref m18, .ref m19, .ref m20, .ref m21, .int 0, .ref m23, .ref m24, .ref m25, .ref m26, .ref m27, .ref m28, .int 0, .int 0, .ref m31, .int 0, .ref m33, .int 0, .ref m35, .int (-1), .ref m37, .int 0, .ref m39, .ref m40, .ref m41, .ref m42, .ref m43, .int 0, .int 0, .int 0, .int 0, .int 0, .int 0, .int 0, .int 0, .ref m52, .int 0, .ref m54, .int 0, .ref m56, .ref m57, .ref m58]))]) [0] rfl
  have hDc := hD.sub (ws' := [(h0, .inr (12, [.int 0, .ref m1, .ref m2, .int 0, .ref m4, .ref m5, .ref m6, .ref m7, .ref m8, .int 0, .ref m10, .ref m11, .ref m12, .ref m13, .ref m14, .ref m15, .ref m16, .ref m17, .ref m18, .ref m19, .ref m20, .ref m21, .int 0, .ref m23, .ref m24, .ref m25, .ref m26, .ref m27, .ref m28, .int 0, .int 0, .ref m31, .int 0, .ref m33, .int 0, .ref m35, .int (-1), .ref m37, .int 0, .ref m39, .ref m40, .ref m41, .ref m42, .ref m43, .int 0, .int 0, .int 0, .int 0, .int 0, .int 0, .int 0, .int 0, .ref m52, .int 0, .ref m54, .int 0, .ref m56, .ref m57, .ref m58]))]) [0] (by decide) rfl
  refine vz_callSi (va_runV (As := [.int p0]) (rest := []) ⟨hx, hb, hml, hown, hts⟩ (c_M_isKeeper l dC dI cy h0 m1 m2 m4 m5 m6 m7 m8 m10 m11 m12 m13 m14 m15 m16 m17 m18 m19 m20 m21 m23 m24 m25 m26 m27 m28 m31 m33 m35 m37 m39 m40 m41 m42 m43 m52 m54 m56 m57 m58 p0 s.heap.size) (cwV 1 hts gX12_comes_X12_isKeeper rfl rfl rfl (by decide +kernel) ⟨Nat.le_of_ble_eq_true rfl, Nat.le_of_ble_eq_true rfl⟩) (wp_V hK hN hPc hDc (va_recv hK hPc (ci := 12) (q0 := 0) rfl rfl)) rfl rfl hl.1 rfl (lv_room (Nat.le_of_ble_eq_true rfl)) dX12_comes_2 ⟨Nat.le_of_ble_eq_true rfl, Nat.le_of_ble_eq_true rfl⟩) (fun r_1 hw_1 => ?_)
  obtain rfl : r_1 = 0 := hw_1
  refine lv_if_eq (tgt := 16) hx hb dX12_comes_5 (by decide) (fun _ => ?_) (fun c_2 => absurd c_2 (by decide))
  refine lv_iconst (v := (-1)) hx hb dX12_comes_16 (by decide) ?_
  change W _ _ _ _ _ _ _ _ _ _ _ _ _ _ _ (F0 m 17 ls [.int (-1)])
  exact W.iret (v := (-1)) hx hb hr (fun t ht hW => ⟨⟨(-1), (), rfl, (by first | rfl | (exfalso; omega)), trivial⟩, hS.F ht⟩) hS.2.2 dX12_comes_17
set_option maxHeartbeats 4000000 in
set_option maxRecDepth 100000 in
theorem c_M_ordered (l : Launch) (dC : Nat → ClassId) (dI : Nat → Nat → Nat) (cy : Nat → ClassId) (h0 : Nat) (m1 : Nat) (m2 : Nat) (m4 : Nat) (m5 : Nat) (m6 : Nat) (m7 : Nat) (m8 : Nat) (m10 : Nat) (m11 : Nat) (m12 : Nat) (m13 : Nat) (m14 : Nat) (m15 : Nat) (m16 : Nat) (m17 : Nat) (m18 : Nat) (m19 : Nat) (m20 : Nat) (m21 : Nat) (m23 : Nat) (m24 : Nat) (m25 : Nat) (m26 : Nat) (m27 : Nat) (m28 : Nat) (m31 : Nat) (m33 : Nat) (m35 : Nat) (m37 : Nat) (m39 : Nat) (m40 : Nat) (m41 : Nat) (m42 : Nat) (m43 : Nat) (m52 : Nat) (m54 : Nat) (m56 : Nat) (m57 : Nat) (m58 : Nat) (p0 : Int32) (sz : Nat)  : Met l yX12_ordered wsX12_ordered ({ frames := 2, cells := 0, slots := 0, locals := 45 }) (va_Pc [.ref h0, .int p0] (wPre (dC, dI) cy [(h0, .inr (12, [.int 0, .ref m1, .ref m2, .int 0, .ref m4, .ref m5, .ref m6, .ref m7, .ref m8, .int 0, .ref m10, .ref m11, .ref m12, .ref m13, .ref m14, .ref m15, .ref m16, .ref m17, .ref m18, .ref m19, .ref m20, .ref m21, .int 0, .ref m23, .ref m24, .ref m25, .ref m26, .ref m27, .ref m28, .int 0, .int 0, .ref m31, .int 0, .ref m33, .int 0, .ref m35, .int (-1), .ref m37, .int 0, .ref m39, .ref m40, .ref m41, .ref m42, .ref m43, .int 0, .int 0, .int 0, .int 0, .int 0, .int 0, .int 0, .int 0, .ref m52, .int 0, .ref m54, .int 0, .ref m56, .ref m57, .ref m58]))] sz)) (va_Qi (fun (r : Int32) (u : Unit) => r = -1) (fun (u : Unit) t => True) (va_A [(h0, .inr (12, [.int 0, .ref m1, .ref m2, .int 0, .ref m4, .ref m5, .ref m6, .ref m7, .ref m8, .int 0, .ref m10, .ref m11, .ref m12, .ref m13, .ref m14, .ref m15, .ref m16, .ref m17, .ref m18, .ref m19, .ref m20, .ref m21, .int 0, .ref m23, .ref m24, .ref m25, .ref m26, .ref m27, .ref m28, .int 0, .int 0, .ref m31, .int 0, .ref m33, .int 0, .ref m35, .int (-1), .ref m37, .int 0, .ref m39, .ref m40, .ref m41, .ref m42, .ref m43, .int 0, .int 0, .int 0, .int 0, .int 0, .int 0, .int 0, .int 0, .ref m52, .int 0, .ref m54, .int 0, .ref m56, .ref m57, .ref m58]))] sz)) 0 0 (va_A [(h0, .inr (12, [.int 0, .ref m1, .ref m2, .int 0, .ref m4, .ref m5, .ref m6, .ref m7, .ref m8, .int 0, .ref m10, .ref m11, .ref m12, .ref m13, .ref m14, .ref m15, .ref m16, .ref m17, .ref m18, .ref m19, .ref m20, .ref m21, .int 0, .ref m23, .ref m24, .ref m25, .ref m26, .ref m27, .ref m28, .int 0, .int 0, .ref m31, .int 0, .ref m33, .int 0, .ref m35, .int (-1), .ref m37, .int 0, .ref m39, .ref m40, .ref m41, .ref m42, .ref m43, .int 0, .int 0, .int 0, .int 0, .int 0, .int 0, .int 0, .int 0, .ref m52, .int 0, .ref m54, .int 0, .ref m56, .ref m57, .ref m58]))] sz) := by
  refine Met.ofW (cc := cX12_ordered) (maxL := 2) (ret := (some .int)) (by decide) rfl ?_
  intro p e s m args below meth c s₁ B hml hv
  obtain ⟨rfl, hsz, hP, hK, hD0, hN⟩ := hv
  have hx := B.exec
  have hb := B.bytes
  have hr := B.returns
  have hts := atoms_spec (ws := wsX12_ordered) B.pre
  have hown : s.vm.findClass RX12 = some m.cls := findClass_of_methodNamed B.named
  have hlocks := B.notSynchronized
  subst hsz
  have hD := hD0.self (sz := s.heap.size)
  generalize hAe : va_A [(h0, .inr (12, [.int 0, .ref m1, .ref m2, .int 0, .ref m4, .ref m5, .ref m6, .ref m7, .ref m8, .int 0, .ref m10, .ref m11, .ref m12, .ref m13, .ref m14, .ref m15, .ref m16, .ref m17, .ref m18, .ref m19, .ref m20, .ref m21, .int 0, .ref m23, .ref m24, .ref m25, .ref m26, .ref m27, .ref m28, .int 0, .int 0, .ref m31, .int 0, .ref m33, .int 0, .ref m35, .int (-1), .ref m37, .int 0, .ref m39, .ref m40, .ref m41, .ref m42, .ref m43, .int 0, .int 0, .int 0, .int 0, .int 0, .int 0, .int 0, .int 0, .ref m52, .int 0, .ref m54, .int 0, .ref m56, .ref m57, .ref m58]))] s.heap.size = A at hD ⊢
  have hA : ∀ q : Nat, s.heap.size ≤ q → A q := fun q h => by rw [← hAe]; exact Or.inr h
  have hS : va_S A s.heap s.heap [] := va_S.rf
  have hl := lv_entry ([.ref h0, .int p0]) (n := 2) (Nat.le_of_ble_eq_true rfl)
  rw [lg_entry_eq]
  generalize (lg_sl ([.ref h0, .int p0]) ++ List.replicate (2 - (lg_sl ([.ref h0, .int p0])).length) Slot.unset).toArray = ls at hl ⊢
  have hl : lv_has ls 2 [(0, .ref h0), (1, .int p0)] := hl
  refine lv_iload_n hx hb dX12_ordered_0 rfl (lv_at hl 1 rfl) ?_
  refine lv_iconst (v := 0) hx hb dX12_ordered_1 (by decide) ?_
  refine lv_aload_n hx hb dX12_ordered_2 rfl (lv_at hl 0 rfl) ?_
  refine va_get (D := (dC, dI)) (ci := 12) (v := .int 0) (C := RX12) (T := TX12) (N := 59) hx hb hts (fun _ h9 => List.mem_cons_of_mem _ (List.mem_append_right _ h9)) hown hK hP 0 rfl rfl 32 (by decide) (hts (.fieldLink RX12 325 "SeatsRoundModel" "orderMany" "I") (List.mem_of_getElem? (i := 1) rfl)) (fun _ h9 => h9) rfl dX12_ordered_3 ?_
  refine lv_iconst (v := 1) hx hb dX12_ordered_6 (by decide) ?_
  refine lv_isub hx hb dX12_ordered_7 ?_
  refine lv_topi (fun f_1 ef_1 => ?_)
  obtain rfl : f_1 = (-1) := ef_1.trans (by decide)
  have hPc := hP.sub (ws' := []) [] rfl
  have hDc := hD.sub (ws' := []) [] (by decide) rfl
  refine vz_callSi (va_runS (As := [.int p0, .int 0, .int (-1)]) (rest := []) ⟨hx, hb, hml, hown, hts⟩ (c_M_in l dC dI cy p0 0 (-1) s.heap.size) (va_cwS 3 hts gX12_ordered_X12_in rfl rfl rfl (by decide +kernel) ⟨Nat.le_of_ble_eq_true rfl, Nat.le_of_ble_eq_true rfl⟩) (wp_S hK hN hPc hDc) rfl rfl hl.1 rfl (lv_room (Nat.le_of_ble_eq_true rfl)) dX12_ordered_8 ⟨Nat.le_of_ble_eq_true rfl, Nat.le_of_ble_eq_true rfl⟩) (fun r_2 hw_2 => ?_)
  rcases hw_2 with ⟨c_2, hw_2⟩ | ⟨c_2, hw_2⟩ <;> subst hw_2
  · have ic_2 : (0 : Int) ≤ p0.toInt ∧ p0.toInt ≤ (-1 : Int) := c_2
    exact absurd True.intro (by omega)
  · have ic_2 : ¬ ((0 : Int) ≤ p0.toInt ∧ p0.toInt ≤ (-1 : Int)) := c_2
    refine lv_if_eq (tgt := 23) hx hb dX12_ordered_11 (by decide) (fun _ => ?_) (fun c_3 => absurd c_3 (by decide))
    refine lv_iconst (v := (-1)) hx hb dX12_ordered_23 (by decide) ?_
    change W _ _ _ _ _ _ _ _ _ _ _ _ _ _ _ (F0 m 24 ls [.int (-1)])
    exact W.iret (v := (-1)) hx hb hr (fun t ht hW => ⟨⟨(-1), (), rfl, (by first | rfl | (exfalso; omega)), trivial⟩, hS.F ht⟩) hS.2.2 dX12_ordered_24
set_option maxHeartbeats 4000000 in
set_option maxRecDepth 100000 in
theorem c_M_harmed (l : Launch) (dC : Nat → ClassId) (dI : Nat → Nat → Nat) (cy : Nat → ClassId) (h0 : Nat) (m1 : Nat) (m2 : Nat) (m4 : Nat) (m5 : Nat) (m6 : Nat) (m7 : Nat) (m8 : Nat) (m10 : Nat) (m11 : Nat) (m12 : Nat) (m13 : Nat) (m14 : Nat) (m15 : Nat) (m16 : Nat) (m17 : Nat) (m18 : Nat) (m19 : Nat) (m20 : Nat) (m21 : Nat) (m23 : Nat) (m24 : Nat) (m25 : Nat) (m26 : Nat) (m27 : Nat) (m28 : Nat) (m31 : Nat) (m33 : Nat) (m35 : Nat) (m37 : Nat) (m39 : Nat) (m40 : Nat) (m41 : Nat) (m42 : Nat) (m43 : Nat) (m52 : Nat) (m54 : Nat) (m56 : Nat) (m57 : Nat) (m58 : Nat) (sz : Nat)  : Met l yX12_harmed wsX12_harmed ({ frames := 1, cells := 0, slots := 0, locals := 23 }) (va_Pc [.ref h0] (wPre (dC, dI) cy [(h0, .inr (12, [.int 0, .ref m1, .ref m2, .int 0, .ref m4, .ref m5, .ref m6, .ref m7, .ref m8, .int 0, .ref m10, .ref m11, .ref m12, .ref m13, .ref m14, .ref m15, .ref m16, .ref m17, .ref m18, .ref m19, .ref m20, .ref m21, .int 0, .ref m23, .ref m24, .ref m25, .ref m26, .ref m27, .ref m28, .int 0, .int 0, .ref m31, .int 0, .ref m33, .int 0, .ref m35, .int (-1), .ref m37, .int 0, .ref m39, .ref m40, .ref m41, .ref m42, .ref m43, .int 0, .int 0, .int 0, .int 0, .int 0, .int 0, .int 0, .int 0, .ref m52, .int 0, .ref m54, .int 0, .ref m56, .ref m57, .ref m58]))] sz)) (va_Qi (fun (r : Int32) (u : Unit) => r = -1) (fun (u : Unit) t => True) (va_A [(h0, .inr (12, [.int 0, .ref m1, .ref m2, .int 0, .ref m4, .ref m5, .ref m6, .ref m7, .ref m8, .int 0, .ref m10, .ref m11, .ref m12, .ref m13, .ref m14, .ref m15, .ref m16, .ref m17, .ref m18, .ref m19, .ref m20, .ref m21, .int 0, .ref m23, .ref m24, .ref m25, .ref m26, .ref m27, .ref m28, .int 0, .int 0, .ref m31, .int 0, .ref m33, .int 0, .ref m35, .int (-1), .ref m37, .int 0, .ref m39, .ref m40, .ref m41, .ref m42, .ref m43, .int 0, .int 0, .int 0, .int 0, .int 0, .int 0, .int 0, .int 0, .ref m52, .int 0, .ref m54, .int 0, .ref m56, .ref m57, .ref m58]))] sz)) 0 0 (va_A [(h0, .inr (12, [.int 0, .ref m1, .ref m2, .int 0, .ref m4, .ref m5, .ref m6, .ref m7, .ref m8, .int 0, .ref m10, .ref m11, .ref m12, .ref m13, .ref m14, .ref m15, .ref m16, .ref m17, .ref m18, .ref m19, .ref m20, .ref m21, .int 0, .ref m23, .ref m24, .ref m25, .ref m26, .ref m27, .ref m28, .int 0, .int 0, .ref m31, .int 0, .ref m33, .int 0, .ref m35, .int (-1), .ref m37, .int 0, .ref m39, .ref m40, .ref m41, .ref m42, .ref m43, .int 0, .int 0, .int 0, .int 0, .int 0, .int 0, .int 0, .int 0, .ref m52, .int 0, .ref m54, .int 0, .ref m56, .ref m57, .ref m58]))] sz) := by
  refine Met.ofW (cc := cX12_harmed) (maxL := 1) (ret := (some .int)) (by decide) rfl ?_
  intro p e s m args below meth c s₁ B hml hv
  obtain ⟨rfl, hsz, hP, hK, hD0, hN⟩ := hv
  have hx := B.exec
  have hb := B.bytes
  have hr := B.returns
  have hts := atoms_spec (ws := wsX12_harmed) B.pre
  have hown : s.vm.findClass RX12 = some m.cls := findClass_of_methodNamed B.named
  have hlocks := B.notSynchronized
  subst hsz
  have hD := hD0.self (sz := s.heap.size)
  generalize hAe : va_A [(h0, .inr (12, [.int 0, .ref m1, .ref m2, .int 0, .ref m4, .ref m5, .ref m6, .ref m7, .ref m8, .int 0, .ref m10, .ref m11, .ref m12, .ref m13, .ref m14, .ref m15, .ref m16, .ref m17, .ref m18, .ref m19, .ref m20, .ref m21, .int 0, .ref m23, .ref m24, .ref m25, .ref m26, .ref m27, .ref m28, .int 0, .int 0, .ref m31, .int 0, .ref m33, .int 0, .ref m35, .int (-1), .ref m37, .int 0, .ref m39, .ref m40, .ref m41, .ref m42, .ref m43, .int 0, .int 0, .int 0, .int 0, .int 0, .int 0, .int 0, .int 0, .ref m52, .int 0, .ref m54, .int 0, .ref m56, .ref m57, .ref m58]))] s.heap.size = A at hD ⊢
  have hA : ∀ q : Nat, s.heap.size ≤ q → A q := fun q h => by rw [← hAe]; exact Or.inr h
  have hS : va_S A s.heap s.heap [] := va_S.rf
  have hl := lv_entry ([.ref h0]) (n := 1) (Nat.le_of_ble_eq_true rfl)
  rw [lg_entry_eq]
  generalize (lg_sl ([.ref h0]) ++ List.replicate (1 - (lg_sl ([.ref h0])).length) Slot.unset).toArray = ls at hl ⊢
  have hl : lv_has ls 1 [(0, .ref h0)] := hl
  refine lv_aload_n hx hb dX12_harmed_0 rfl (lv_at hl 0 rfl) ?_
  refine va_get (D := (dC, dI)) (ci := 12) (v := .int (-1)) (C := RX12) (T := TX12) (N := 59) hx hb hts (fun _ h9 => List.mem_cons_of_mem _ (List.mem_append_right _ h9)) hown hK hP 0 rfl rfl 36 (by decide) (hts (.fieldLink RX12 95 "SeatsRoundModel" "harmShare" "I") (List.mem_of_getElem? (i := 1) rfl)) (fun _ h9 => h9) rfl dX12_harmed_1 ?_
  exact W.iret (v := (-1)) hx hb hr (fun t ht hW => ⟨⟨(-1), (), rfl, (by first | rfl | (exfalso; omega)), trivial⟩, hS.F ht⟩) hS.2.2 dX12_harmed_4
set_option maxHeartbeats 4000000 in
set_option maxRecDepth 100000 in
theorem c_M_trace (l : Launch) (dC : Nat → ClassId) (dI : Nat → Nat → Nat) (cy : Nat → ClassId) (h0 : Nat) (m1 : Nat) (m2 : Nat) (m4 : Nat) (m5 : Nat) (m6 : Nat) (m7 : Nat) (m8 : Nat) (m10 : Nat) (m11 : Nat) (m12 : Nat) (m13 : Nat) (m14 : Nat) (m15 : Nat) (m16 : Nat) (m17 : Nat) (m18 : Nat) (m19 : Nat) (m20 : Nat) (m21 : Nat) (m23 : Nat) (m24 : Nat) (m25 : Nat) (m26 : Nat) (m27 : Nat) (m28 : Nat) (m31 : Nat) (m33 : Nat) (m35 : Nat) (m37 : Nat) (m39 : Nat) (m40 : Nat) (m41 : Nat) (m42 : Nat) (m43 : Nat) (m52 : Nat) (m54 : Nat) (m56 : Nat) (m57 : Nat) (m58 : Nat) (p0 : Int32) (sz : Nat)  : Met l yX12_trace wsX12_trace ({ frames := 1, cells := 0, slots := 0, locals := 23 }) (va_Pc [.ref h0, .int p0] (wPre (dC, dI) cy [(h0, .inr (12, [.int 0, .ref m1, .ref m2, .int 0, .ref m4, .ref m5, .ref m6, .ref m7, .ref m8, .int 0, .ref m10, .ref m11, .ref m12, .ref m13, .ref m14, .ref m15, .ref m16, .ref m17, .ref m18, .ref m19, .ref m20, .ref m21, .int 0, .ref m23, .ref m24, .ref m25, .ref m26, .ref m27, .ref m28, .int 0, .int 0, .ref m31, .int 0, .ref m33, .int 0, .ref m35, .int (-1), .ref m37, .int 0, .ref m39, .ref m40, .ref m41, .ref m42, .ref m43, .int 0, .int 0, .int 0, .int 0, .int 0, .int 0, .int 0, .int 0, .ref m52, .int 0, .ref m54, .int 0, .ref m56, .ref m57, .ref m58]))] sz)) (va_Qi (fun (r : Int32) (u : Unit) => r = -1) (fun (u : Unit) t => True) (va_A [(h0, .inr (12, [.int 0, .ref m1, .ref m2, .int 0, .ref m4, .ref m5, .ref m6, .ref m7, .ref m8, .int 0, .ref m10, .ref m11, .ref m12, .ref m13, .ref m14, .ref m15, .ref m16, .ref m17, .ref m18, .ref m19, .ref m20, .ref m21, .int 0, .ref m23, .ref m24, .ref m25, .ref m26, .ref m27, .ref m28, .int 0, .int 0, .ref m31, .int 0, .ref m33, .int 0, .ref m35, .int (-1), .ref m37, .int 0, .ref m39, .ref m40, .ref m41, .ref m42, .ref m43, .int 0, .int 0, .int 0, .int 0, .int 0, .int 0, .int 0, .int 0, .ref m52, .int 0, .ref m54, .int 0, .ref m56, .ref m57, .ref m58]))] sz)) 0 0 (va_A [(h0, .inr (12, [.int 0, .ref m1, .ref m2, .int 0, .ref m4, .ref m5, .ref m6, .ref m7, .ref m8, .int 0, .ref m10, .ref m11, .ref m12, .ref m13, .ref m14, .ref m15, .ref m16, .ref m17, .ref m18, .ref m19, .ref m20, .ref m21, .int 0, .ref m23, .ref m24, .ref m25, .ref m26, .ref m27, .ref m28, .int 0, .int 0, .ref m31, .int 0, .ref m33, .int 0, .ref m35, .int (-1), .ref m37, .int 0, .ref m39, .ref m40, .ref m41, .ref m42, .ref m43, .int 0, .int 0, .int 0, .int 0, .int 0, .int 0, .int 0, .int 0, .ref m52, .int 0, .ref m54, .int 0, .ref m56, .ref m57, .ref m58]))] sz) := by
  refine Met.ofW (cc := cX12_trace) (maxL := 2) (ret := (some .int)) (by decide) rfl ?_
  intro p e s m args below meth c s₁ B hml hv
  obtain ⟨rfl, hsz, hP, hK, hD0, hN⟩ := hv
  have hx := B.exec
  have hb := B.bytes
  have hr := B.returns
  have hts := atoms_spec (ws := wsX12_trace) B.pre
  have hown : s.vm.findClass RX12 = some m.cls := findClass_of_methodNamed B.named
  have hlocks := B.notSynchronized
  subst hsz
  have hD := hD0.self (sz := s.heap.size)
  generalize hAe : va_A [(h0, .inr (12, [.int 0, .ref m1, .ref m2, .int 0, .ref m4, .ref m5, .ref m6, .ref m7, .ref m8, .int 0, .ref m10, .ref m11, .ref m12, .ref m13, .ref m14, .ref m15, .ref m16, .ref m17, .ref m18, .ref m19, .ref m20, .ref m21, .int 0, .ref m23, .ref m24, .ref m25, .ref m26, .ref m27, .ref m28, .int 0, .int 0, .ref m31, .int 0, .ref m33, .int 0, .ref m35, .int (-1), .ref m37, .int 0, .ref m39, .ref m40, .ref m41, .ref m42, .ref m43, .int 0, .int 0, .int 0, .int 0, .int 0, .int 0, .int 0, .int 0, .ref m52, .int 0, .ref m54, .int 0, .ref m56, .ref m57, .ref m58]))] s.heap.size = A at hD ⊢
  have hA : ∀ q : Nat, s.heap.size ≤ q → A q := fun q h => by rw [← hAe]; exact Or.inr h
  have hS : va_S A s.heap s.heap [] := va_S.rf
  have hl := lv_entry ([.ref h0, .int p0]) (n := 2) (Nat.le_of_ble_eq_true rfl)
  rw [lg_entry_eq]
  generalize (lg_sl ([.ref h0, .int p0]) ++ List.replicate (2 - (lg_sl ([.ref h0, .int p0])).length) Slot.unset).toArray = ls at hl ⊢
  have hl : lv_has ls 2 [(0, .ref h0), (1, .int p0)] := hl
  refine lv_iload_n hx hb dX12_trace_0 rfl (lv_at hl 1 rfl) ?_
  refine lv_if_lt (tgt := 27) hx hb dX12_trace_1 (by decide) (fun c_1 => ?_) (fun c_1 => ?_)
  · have ic_1 : p0.toInt < (0 : Int) := Int32.lt_iff_toInt_lt.mp c_1
    refine lv_iconst (v := (-1)) hx hb dX12_trace_27 (by decide) ?_
    exact W.iret (v := (-1)) hx hb hr (fun t ht hW => ⟨⟨(-1), (), rfl, (by first | rfl | (exfalso; omega)), trivial⟩, hS.F ht⟩) hS.2.2 dX12_trace_28
  · have ic_1 : ¬ p0.toInt < (0 : Int) := fun h9 => c_1 (Int32.lt_iff_toInt_lt.mpr h9)
    refine lv_iload_n hx hb dX12_trace_4 rfl (lv_at hl 1 rfl) ?_
    refine lv_aload_n hx hb dX12_trace_5 rfl (lv_at hl 0 rfl) ?_
    refine va_get (D := (dC, dI)) (ci := 12) (v := .int 0) (C := RX12) (T := TX12) (N := 59) hx hb hts (fun _ h9 => List.mem_cons_of_mem _ (List.mem_append_right _ h9)) hown hK hP 0 rfl rfl 38 (by decide) (hts (.fieldLink RX12 334 "SeatsRoundModel" "bodies" "I") (List.mem_of_getElem? (i := 1) rfl)) (fun _ h9 => h9) rfl dX12_trace_6 ?_
    refine lv_icmp_ge (tgt := 27) hx hb dX12_trace_9 (by decide) (fun c_2 => ?_) (fun c_2 => ?_)
    · have ic_2 : (0 : Int) ≤ p0.toInt := Int32.le_iff_toInt_le.mp c_2
      refine lv_iconst (v := (-1)) hx hb dX12_trace_27 (by decide) ?_
      change W _ _ _ _ _ _ _ _ _ _ _ _ _ _ _ (F0 m 28 ls [.int (-1)])
      exact W.iret (v := (-1)) hx hb hr (fun t ht hW => ⟨⟨(-1), (), rfl, (by first | rfl | (exfalso; omega)), trivial⟩, hS.F ht⟩) hS.2.2 dX12_trace_28
    · have ic_2 : ¬ (0 : Int) ≤ p0.toInt := fun h9 => c_2 (Int32.le_iff_toInt_le.mpr h9)
      exact absurd True.intro (by omega)
set_option maxHeartbeats 4000000 in
set_option maxRecDepth 100000 in
theorem c_M_ofKeeper (l : Launch) (dC : Nat → ClassId) (dI : Nat → Nat → Nat) (cy : Nat → ClassId) (h0 : Nat) (m1 : Nat) (m2 : Nat) (m4 : Nat) (m5 : Nat) (m6 : Nat) (m7 : Nat) (m8 : Nat) (m10 : Nat) (m11 : Nat) (m12 : Nat) (m13 : Nat) (m14 : Nat) (m15 : Nat) (m16 : Nat) (m17 : Nat) (m18 : Nat) (m19 : Nat) (m20 : Nat) (m21 : Nat) (m23 : Nat) (m24 : Nat) (m25 : Nat) (m26 : Nat) (m27 : Nat) (m28 : Nat) (m31 : Nat) (m33 : Nat) (m35 : Nat) (m37 : Nat) (m39 : Nat) (m40 : Nat) (m41 : Nat) (m42 : Nat) (m43 : Nat) (m52 : Nat) (m54 : Nat) (m56 : Nat) (m57 : Nat) (m58 : Nat) (p0 : Int32) (p1 : Int32) (sz : Nat)  : Met l yX12_ofKeeper wsX12_ofKeeper ({ frames := 3, cells := 0, slots := 0, locals := 66 }) (va_Pc [.ref h0, .int p0, .int p1] (wPre (dC, dI) cy [(h0, .inr (12, [.int 0, .ref m1, .ref m2, .int 0, .ref m4, .ref m5, .ref m6, .ref m7, .ref m8, .int 0, .ref m10, .ref m11, .ref m12, .ref m13, .ref m14, .ref m15, .ref m16, .ref m17, .ref m18, .ref m19, .ref m20, .ref m21, .int 0, .ref m23, .ref m24, .ref m25, .ref m26, .ref m27, .ref m28, .int 0, .int 0, .ref m31, .int 0, .ref m33, .int 0, .ref m35, .int (-1), .ref m37, .int 0, .ref m39, .ref m40, .ref m41, .ref m42, .ref m43, .int 0, .int 0, .int 0, .int 0, .int 0, .int 0, .int 0, .int 0, .ref m52, .int 0, .ref m54, .int 0, .ref m56, .ref m57, .ref m58]))] sz)) (va_Qi (fun (r : Int32) (u : Unit) => r = -2000000000) (fun (u : Unit) t => True) (va_A [(h0, .inr (12, [.int 0, .ref m1, .ref m2, .int 0, .ref m4, .ref m5, .ref m6, .ref m7, .ref m8, .int 0, .ref m10, .ref m11, .ref m12, .ref m13, .ref m14, .ref m15, .ref m16, .ref m17, .ref m18, .ref m19, .ref m20, .ref m21, .int 0, .ref m23, .ref m24, .ref m25, .ref m26, .ref m27, .ref m28, .int 0, .int 0, .ref m31, .int 0, .ref m33, .int 0, .ref m35, .int (-1), .ref m37, .int 0, .ref m39, .ref m40, .ref m41, .ref m42, .ref m43, .int 0, .int 0, .int 0, .int 0, .int 0, .int 0, .int 0, .int 0, .ref m52, .int 0, .ref m54, .int 0, .ref m56, .ref m57, .ref m58]))] sz)) 0 0 (va_A [(h0, .inr (12, [.int 0, .ref m1, .ref m2, .int 0, .ref m4, .ref m5, .ref m6, .ref m7, .ref m8, .int 0, .ref m10, .ref m11, .ref m12, .ref m13, .ref m14, .ref m15, .ref m16, .ref m17, .ref m18, .ref m19, .ref m20, .ref m21, .int 0, .ref m23, .ref m24, .ref m25, .ref m26, .ref m27, .ref m28, .int 0, .int 0, .ref m31, .int 0, .ref m33, .int 0, .ref m35, .int (-1), .ref m37, .int 0, .ref m39, .ref m40, .ref m41, .ref m42, .ref m43, .int 0, .int 0, .int 0, .int 0, .int 0, .int 0, .int 0, .int 0, .ref m52, .int 0, .ref m54, .int 0, .ref m56, .ref m57, .ref m58]))] sz) := by
  refine Met.ofW (cc := cX12_ofKeeper) (maxL := 3) (ret := (some .int)) (by decide) rfl ?_
  intro p e s m args below meth c s₁ B hml hv
  obtain ⟨rfl, hsz, hP, hK, hD0, hN⟩ := hv
  have hx := B.exec
  have hb := B.bytes
  have hr := B.returns
  have hts := atoms_spec (ws := wsX12_ofKeeper) B.pre
  have hown : s.vm.findClass RX12 = some m.cls := findClass_of_methodNamed B.named
  have hlocks := B.notSynchronized
  subst hsz
  have hD := hD0.self (sz := s.heap.size)
  generalize hAe : va_A [(h0, .inr (12, [.int 0, .ref m1, .ref m2, .int 0, .ref m4, .ref m5, .ref m6, .ref m7, .ref m8, .int 0, .ref m10, .ref m11, .ref m12, .ref m13, .ref m14, .ref m15, .ref m16, .ref m17, .ref m18, .ref m19, .ref m20, .ref m21, .int 0, .ref m23, .ref m24, .ref m25, .ref m26, .ref m27, .ref m28, .int 0, .int 0, .ref m31, .int 0, .ref m33, .int 0, .ref m35, .int (-1), .ref m37, .int 0, .ref m39, .ref m40, .ref m41, .ref m42, .ref m43, .int 0, .int 0, .int 0, .int 0, .int 0, .int 0, .int 0, .int 0, .ref m52, .int 0, .ref m54, .int 0, .ref m56, .ref m57, .ref m58]))] s.heap.size = A at hD ⊢
  have hA : ∀ q : Nat, s.heap.size ≤ q → A q := fun q h => by rw [← hAe]; exact Or.inr h
  have hS : va_S A s.heap s.heap [] := va_S.rf
  have hl := lv_entry ([.ref h0, .int p0, .int p1]) (n := 3) (Nat.le_of_ble_eq_true rfl)
  rw [lg_entry_eq]
  generalize (lg_sl ([.ref h0, .int p0, .int p1]) ++ List.replicate (3 - (lg_sl ([.ref h0, .int p0, .int p1])).length) Slot.unset).toArray = ls at hl ⊢
  have hl : lv_has ls 3 [(0, .ref h0), (1, .int p0), (2, .int p1)] := hl
  refine lv_aload_n hx hb dX12_ofKeeper_0 rfl (lv_at hl 0 rfl) ?_
  refine lv_iload_n hx hb dX12_ofKeeper_1 rfl (lv_at hl 1 rfl) ?_
  have hPc := hP.sub (ws' := [(h0, .inr (12, [.int 0, .ref m1, .ref m2, .int 0, .ref m4, .ref m5, .ref m6, .ref m7, .ref m8, .int 0, .ref m10, .ref m11, .ref m12, .ref m13, .ref m14, .ref m15, .ref m16, .ref m17, .ref m18, .ref m19, .ref m20, .ref m21, .int 0, .ref m23, .ref m24, .ref m25, .ref m26, .ref m27, .ref m28, .int 0, .int 0, .ref m31, .int 0, .ref m33, .int 0, .ref m35, .int (-1), .ref m37, .int 0, .ref m39, .ref m40, .ref m41, .ref m42, .ref m43, .int 0, .int 0, .int 0, .int 0, .int 0, .int 0, .int 0, .int 0, .ref m52, .int 0, .ref m54, .int 0, .ref m56, .ref m57, .ref m58]))]) [0] rfl
  have hDc := hD.sub (ws' := [(h0, .inr (12, [.int 0, .ref m1, .ref m2, .int 0, .ref m4, .ref m5, .ref m6, .ref m7, .ref m8, .int 0, .ref m10, .ref m11, .ref m12, .ref m13, .ref m14, .ref m15, .ref m16, .ref m17, .ref m18, .ref m19, .ref m20, .ref m21, .int 0, .ref m23, .ref m24, .ref m25, .ref m26, .ref m27, .ref m28, .int 0, .int 0, .ref m31, .int 0, .ref m33, .int 0, .ref m35, .int (-1), .ref m37, .int 0, .ref m39, .ref m40, .ref m41, .ref m42, .ref m43, .int 0, .int 0, .int 0, .int 0, .int 0, .int 0, .int 0, .int 0, .ref m52, .int 0, .ref m54, .int 0, .ref m56, .ref m57, .ref m58]))]) [0] (by decide) rfl
  refine vz_callSi (va_runV (As := [.int p0]) (rest := []) ⟨hx, hb, hml, hown, hts⟩ (c_M_isKeeper l dC dI cy h0 m1 m2 m4 m5 m6 m7 m8 m10 m11 m12 m13 m14 m15 m16 m17 m18 m19 m20 m21 m23 m24 m25 m26 m27 m28 m31 m33 m35 m37 m39 m40 m41 m42 m43 m52 m54 m56 m57 m58 p0 s.heap.size) (cwV 1 hts gX12_ofKeeper_X12_isKeeper rfl rfl rfl (by decide +kernel) ⟨Nat.le_of_ble_eq_true rfl, Nat.le_of_ble_eq_true rfl⟩) (wp_V hK hN hPc hDc (va_recv hK hPc (ci := 12) (q0 := 0) rfl rfl)) rfl rfl hl.1 rfl (lv_room (Nat.le_of_ble_eq_true rfl)) dX12_ofKeeper_2 ⟨Nat.le_of_ble_eq_true rfl, Nat.le_of_ble_eq_true rfl⟩) (fun r_1 hw_1 => ?_)
  obtain rfl : r_1 = 0 := hw_1
  change W _ _ _ _ _ _ _ _ _ _ _ _ _ _ _ (F0 m 5 ls [.int 0])
  refine lv_if_ne (tgt := 11) hx hb dX12_ofKeeper_5 (by decide) (fun c_2 => absurd c_2 (by decide)) (fun _ => ?_)
  refine lv_ldc hx hb hown (hts (.constant RX12 169 (-2000000000)) (List.mem_of_getElem? (i := 1) rfl)) dX12_ofKeeper_8 ?_
  exact W.iret (v := (-2000000000)) hx hb hr (fun t ht hW => ⟨⟨(-2000000000), (), rfl, (by first | rfl | (exfalso; omega)), trivial⟩, hS.F ht⟩) hS.2.2 dX12_ofKeeper_10
set_option maxHeartbeats 4000000 in
set_option maxRecDepth 100000 in
theorem c_M_knows (l : Launch) (dC : Nat → ClassId) (dI : Nat → Nat → Nat) (cy : Nat → ClassId) (h0 : Nat) (m1 : Nat) (m2 : Nat) (m4 : Nat) (m5 : Nat) (m6 : Nat) (m7 : Nat) (m8 : Nat) (m10 : Nat) (m11 : Nat) (m12 : Nat) (m13 : Nat) (m14 : Nat) (m15 : Nat) (m16 : Nat) (m17 : Nat) (m18 : Nat) (m19 : Nat) (m20 : Nat) (m21 : Nat) (m23 : Nat) (m24 : Nat) (m25 : Nat) (m26 : Nat) (m27 : Nat) (m28 : Nat) (m31 : Nat) (m33 : Nat) (m35 : Nat) (m37 : Nat) (m39 : Nat) (m40 : Nat) (m41 : Nat) (m42 : Nat) (m43 : Nat) (m52 : Nat) (m54 : Nat) (m56 : Nat) (m57 : Nat) (m58 : Nat) (p0 : Int32) (p1 : Int32) (sz : Nat)  : Met l yX12_knows wsX12_knows ({ frames := 3, cells := 0, slots := 0, locals := 66 }) (va_Pc [.ref h0, .int p0, .int p1] (wPre (dC, dI) cy [(h0, .inr (12, [.int 0, .ref m1, .ref m2, .int 0, .ref m4, .ref m5, .ref m6, .ref m7, .ref m8, .int 0, .ref m10, .ref m11, .ref m12, .ref m13, .ref m14, .ref m15, .ref m16, .ref m17, .ref m18, .ref m19, .ref m20, .ref m21, .int 0, .ref m23, .ref m24, .ref m25, .ref m26, .ref m27, .ref m28, .int 0, .int 0, .ref m31, .int 0, .ref m33, .int 0, .ref m35, .int (-1), .ref m37, .int 0, .ref m39, .ref m40, .ref m41, .ref m42, .ref m43, .int 0, .int 0, .int 0, .int 0, .int 0, .int 0, .int 0, .int 0, .ref m52, .int 0, .ref m54, .int 0, .ref m56, .ref m57, .ref m58]))] sz)) (va_Qi (fun (r : Int32) (u : Unit) => r = -2000000000) (fun (u : Unit) t => True) (va_A [(h0, .inr (12, [.int 0, .ref m1, .ref m2, .int 0, .ref m4, .ref m5, .ref m6, .ref m7, .ref m8, .int 0, .ref m10, .ref m11, .ref m12, .ref m13, .ref m14, .ref m15, .ref m16, .ref m17, .ref m18, .ref m19, .ref m20, .ref m21, .int 0, .ref m23, .ref m24, .ref m25, .ref m26, .ref m27, .ref m28, .int 0, .int 0, .ref m31, .int 0, .ref m33, .int 0, .ref m35, .int (-1), .ref m37, .int 0, .ref m39, .ref m40, .ref m41, .ref m42, .ref m43, .int 0, .int 0, .int 0, .int 0, .int 0, .int 0, .int 0, .int 0, .ref m52, .int 0, .ref m54, .int 0, .ref m56, .ref m57, .ref m58]))] sz)) 0 0 (va_A [(h0, .inr (12, [.int 0, .ref m1, .ref m2, .int 0, .ref m4, .ref m5, .ref m6, .ref m7, .ref m8, .int 0, .ref m10, .ref m11, .ref m12, .ref m13, .ref m14, .ref m15, .ref m16, .ref m17, .ref m18, .ref m19, .ref m20, .ref m21, .int 0, .ref m23, .ref m24, .ref m25, .ref m26, .ref m27, .ref m28, .int 0, .int 0, .ref m31, .int 0, .ref m33, .int 0, .ref m35, .int (-1), .ref m37, .int 0, .ref m39, .ref m40, .ref m41, .ref m42, .ref m43, .int 0, .int 0, .int 0, .int 0, .int 0, .int 0, .int 0, .int 0, .ref m52, .int 0, .ref m54, .int 0, .ref m56, .ref m57, .ref m58]))] sz) := by
  refine Met.ofW (cc := cX12_knows) (maxL := 4) (ret := (some .int)) (by decide) rfl ?_
  intro p e s m args below meth c s₁ B hml hv
  obtain ⟨rfl, hsz, hP, hK, hD0, hN⟩ := hv
  have hx := B.exec
  have hb := B.bytes
  have hr := B.returns
  have hts := atoms_spec (ws := wsX12_knows) B.pre
  have hown : s.vm.findClass RX12 = some m.cls := findClass_of_methodNamed B.named
  have hlocks := B.notSynchronized
  subst hsz
  have hD := hD0.self (sz := s.heap.size)
  generalize hAe : va_A [(h0, .inr (12, [.int 0, .ref m1, .ref m2, .int 0, .ref m4, .ref m5, .ref m6, .ref m7, .ref m8, .int 0, .ref m10, .ref m11, .ref m12, .ref m13, .ref m14, .ref m15, .ref m16, .ref m17, .ref m18, .ref m19, .ref m20, .ref m21, .int 0, .ref m23, .ref m24, .ref m25, .ref m26, .ref m27, .ref m28, .int 0, .int 0, .ref m31, .int 0, .ref m33, .int 0, .ref m35, .int (-1), .ref m37, .int 0, .ref m39, .ref m40, .ref m41, .ref m42, .ref m43, .int 0, .int 0, .int 0, .int 0, .int 0, .int 0, .int 0, .int 0, .ref m52, .int 0, .ref m54, .int 0, .ref m56, .ref m57, .ref m58]))] s.heap.size = A at hD ⊢
  have hA : ∀ q : Nat, s.heap.size ≤ q → A q := fun q h => by rw [← hAe]; exact Or.inr h
  have hS : va_S A s.heap s.heap [] := va_S.rf
  have hl := lv_entry ([.ref h0, .int p0, .int p1]) (n := 4) (Nat.le_of_ble_eq_true rfl)
  rw [lg_entry_eq]
  generalize (lg_sl ([.ref h0, .int p0, .int p1]) ++ List.replicate (4 - (lg_sl ([.ref h0, .int p0, .int p1])).length) Slot.unset).toArray = ls at hl ⊢
  have hl : lv_has ls 4 [(0, .ref h0), (1, .int p0), (2, .int p1)] := hl
  refine lv_aload_n hx hb dX12_knows_0 rfl (lv_at hl 0 rfl) ?_
  change W _ _ _ _ _ _ _ _ _ _ _ _ _ _ _ (F0 m 1 ls [.ref h0])
  refine lv_iload_n hx hb dX12_knows_1 rfl (lv_at hl 1 rfl) ?_
  have hPc := hP.sub (ws' := [(h0, .inr (12, [.int 0, .ref m1, .ref m2, .int 0, .ref m4, .ref m5, .ref m6, .ref m7, .ref m8, .int 0, .ref m10, .ref m11, .ref m12, .ref m13, .ref m14, .ref m15, .ref m16, .ref m17, .ref m18, .ref m19, .ref m20, .ref m21, .int 0, .ref m23, .ref m24, .ref m25, .ref m26, .ref m27, .ref m28, .int 0, .int 0, .ref m31, .int 0, .ref m33, .int 0, .ref m35, .int (-1), .ref m37, .int 0, .ref m39, .ref m40, .ref m41, .ref m42, .ref m43, .int 0, .int 0, .int 0, .int 0, .int 0, .int 0, .int 0, .int 0, .ref m52, .int 0, .ref m54, .int 0, .ref m56, .ref m57, .ref m58]))]) [0] rfl
  have hDc := hD.sub (ws' := [(h0, .inr (12, [.int 0, .ref m1, .ref m2, .int 0, .ref m4, .ref m5, .ref m6, .ref m7, .ref m8, .int 0, .ref m10, .ref m11, .ref m12, .ref m13, .ref m14, .ref m15, .ref m16, .ref m17, .ref m18, .ref m19, .ref m20, .ref m21, .int 0, .ref m23, .ref m24, .ref m25, .ref m26, .ref m27, .ref m28, .int 0, .int 0, .ref m31, .int 0, .ref m33, .int 0, .ref m35, .int (-1), .ref m37, .int 0, .ref m39, .ref m40, .ref m41, .ref m42, .ref m43, .int 0, .int 0, .int 0, .int 0, .int 0, .int 0, .int 0, .int 0, .ref m52, .int 0, .ref m54, .int 0, .ref m56, .ref m57, .ref m58]))]) [0] (by decide) rfl
  refine vz_callSi (va_runV (As := [.int p0]) (rest := []) ⟨hx, hb, hml, hown, hts⟩ (c_M_isKeeper l dC dI cy h0 m1 m2 m4 m5 m6 m7 m8 m10 m11 m12 m13 m14 m15 m16 m17 m18 m19 m20 m21 m23 m24 m25 m26 m27 m28 m31 m33 m35 m37 m39 m40 m41 m42 m43 m52 m54 m56 m57 m58 p0 s.heap.size) (cwV 1 hts gX12_knows_X12_isKeeper rfl rfl rfl (by decide +kernel) ⟨Nat.le_of_ble_eq_true rfl, Nat.le_of_ble_eq_true rfl⟩) (wp_V hK hN hPc hDc (va_recv hK hPc (ci := 12) (q0 := 0) rfl rfl)) rfl rfl hl.1 rfl (lv_room (Nat.le_of_ble_eq_true rfl)) dX12_knows_2 ⟨Nat.le_of_ble_eq_true rfl, Nat.le_of_ble_eq_true rfl⟩) (fun r_1 hw_1 => ?_)
  obtain rfl : r_1 = 0 := hw_1
  refine lv_if_eq (tgt := 22) hx hb dX12_knows_5 (by decide) (fun _ => ?_) (fun c_2 => absurd c_2 (by decide))
  refine lv_ldc hx hb hown (hts (.constant RX12 169 (-2000000000)) (List.mem_of_getElem? (i := 2) rfl)) dX12_knows_22 ?_
  exact W.iret (v := (-2000000000)) hx hb hr (fun t ht hW => ⟨⟨(-2000000000), (), rfl, (by first | rfl | (exfalso; omega)), trivial⟩, hS.F ht⟩) hS.2.2 dX12_knows_24
set_option maxHeartbeats 4000000 in
set_option maxRecDepth 100000 in
theorem c_M_turning (l : Launch) (dC : Nat → ClassId) (dI : Nat → Nat → Nat) (cy : Nat → ClassId) (h0 : Nat) (m1 : Nat) (m2 : Nat) (m4 : Nat) (m5 : Nat) (m6 : Nat) (m7 : Nat) (m8 : Nat) (m10 : Nat) (m11 : Nat) (m12 : Nat) (m13 : Nat) (m14 : Nat) (m15 : Nat) (m16 : Nat) (m17 : Nat) (m18 : Nat) (m19 : Nat) (m20 : Nat) (m21 : Nat) (m23 : Nat) (m24 : Nat) (m25 : Nat) (m26 : Nat) (m27 : Nat) (m28 : Nat) (m31 : Nat) (m33 : Nat) (m35 : Nat) (m37 : Nat) (m39 : Nat) (m40 : Nat) (m41 : Nat) (m42 : Nat) (m43 : Nat) (m52 : Nat) (m54 : Nat) (m56 : Nat) (m57 : Nat) (m58 : Nat) (p0 : Int32) (sz : Nat)  : Met l yX12_turning wsX12_turning ({ frames := 1, cells := 0, slots := 0, locals := 23 }) (va_Pc [.ref h0, .int p0] (wPre (dC, dI) cy [(h0, .inr (12, [.int 0, .ref m1, .ref m2, .int 0, .ref m4, .ref m5, .ref m6, .ref m7, .ref m8, .int 0, .ref m10, .ref m11, .ref m12, .ref m13, .ref m14, .ref m15, .ref m16, .ref m17, .ref m18, .ref m19, .ref m20, .ref m21, .int 0, .ref m23, .ref m24, .ref m25, .ref m26, .ref m27, .ref m28, .int 0, .int 0, .ref m31, .int 0, .ref m33, .int 0, .ref m35, .int (-1), .ref m37, .int 0, .ref m39, .ref m40, .ref m41, .ref m42, .ref m43, .int 0, .int 0, .int 0, .int 0, .int 0, .int 0, .int 0, .int 0, .ref m52, .int 0, .ref m54, .int 0, .ref m56, .ref m57, .ref m58])), (m35, .inl (cy 0, 6, .inl (fun _ => 0)))] sz)) (va_Qi (fun (r : Int32) (u : Unit) => r = 1) (fun (u : Unit) t => True) (va_A [(h0, .inr (12, [.int 0, .ref m1, .ref m2, .int 0, .ref m4, .ref m5, .ref m6, .ref m7, .ref m8, .int 0, .ref m10, .ref m11, .ref m12, .ref m13, .ref m14, .ref m15, .ref m16, .ref m17, .ref m18, .ref m19, .ref m20, .ref m21, .int 0, .ref m23, .ref m24, .ref m25, .ref m26, .ref m27, .ref m28, .int 0, .int 0, .ref m31, .int 0, .ref m33, .int 0, .ref m35, .int (-1), .ref m37, .int 0, .ref m39, .ref m40, .ref m41, .ref m42, .ref m43, .int 0, .int 0, .int 0, .int 0, .int 0, .int 0, .int 0, .int 0, .ref m52, .int 0, .ref m54, .int 0, .ref m56, .ref m57, .ref m58])), (m35, .inl (cy 0, 6, .inl (fun _ => 0)))] sz)) 0 0 (va_A [(h0, .inr (12, [.int 0, .ref m1, .ref m2, .int 0, .ref m4, .ref m5, .ref m6, .ref m7, .ref m8, .int 0, .ref m10, .ref m11, .ref m12, .ref m13, .ref m14, .ref m15, .ref m16, .ref m17, .ref m18, .ref m19, .ref m20, .ref m21, .int 0, .ref m23, .ref m24, .ref m25, .ref m26, .ref m27, .ref m28, .int 0, .int 0, .ref m31, .int 0, .ref m33, .int 0, .ref m35, .int (-1), .ref m37, .int 0, .ref m39, .ref m40, .ref m41, .ref m42, .ref m43, .int 0, .int 0, .int 0, .int 0, .int 0, .int 0, .int 0, .int 0, .ref m52, .int 0, .ref m54, .int 0, .ref m56, .ref m57, .ref m58])), (m35, .inl (cy 0, 6, .inl (fun _ => 0)))] sz) := by
  refine Met.ofW (cc := cX12_turning) (maxL := 2) (ret := (some .int)) (by decide) rfl ?_
  intro p e s m args below meth c s₁ B hml hv
  obtain ⟨rfl, hsz, hP, hK, hD0, hN⟩ := hv
  have hx := B.exec
  have hb := B.bytes
  have hr := B.returns
  have hts := atoms_spec (ws := wsX12_turning) B.pre
  have hown : s.vm.findClass RX12 = some m.cls := findClass_of_methodNamed B.named
  have hlocks := B.notSynchronized
  subst hsz
  have hD := hD0.self (sz := s.heap.size)
  generalize hAe : va_A [(h0, .inr (12, [.int 0, .ref m1, .ref m2, .int 0, .ref m4, .ref m5, .ref m6, .ref m7, .ref m8, .int 0, .ref m10, .ref m11, .ref m12, .ref m13, .ref m14, .ref m15, .ref m16, .ref m17, .ref m18, .ref m19, .ref m20, .ref m21, .int 0, .ref m23, .ref m24, .ref m25, .ref m26, .ref m27, .ref m28, .int 0, .int 0, .ref m31, .int 0, .ref m33, .int 0, .ref m35, .int (-1), .ref m37, .int 0, .ref m39, .ref m40, .ref m41, .ref m42, .ref m43, .int 0, .int 0, .int 0, .int 0, .int 0, .int 0, .int 0, .int 0, .ref m52, .int 0, .ref m54, .int 0, .ref m56, .ref m57, .ref m58])), (m35, .inl (cy 0, 6, .inl (fun _ => 0)))] s.heap.size = A at hD ⊢
  have hA : ∀ q : Nat, s.heap.size ≤ q → A q := fun q h => by rw [← hAe]; exact Or.inr h
  have hS : va_S A s.heap s.heap [] := va_S.rf
  have hl := lv_entry ([.ref h0, .int p0]) (n := 2) (Nat.le_of_ble_eq_true rfl)
  rw [lg_entry_eq]
  generalize (lg_sl ([.ref h0, .int p0]) ++ List.replicate (2 - (lg_sl ([.ref h0, .int p0])).length) Slot.unset).toArray = ls at hl ⊢
  have hl : lv_has ls 2 [(0, .ref h0), (1, .int p0)] := hl
  refine lv_aload_n hx hb dX12_turning_0 rfl (lv_at hl 0 rfl) ?_
  refine va_get (D := (dC, dI)) (ci := 12) (v := .int 0) (C := RX12) (T := TX12) (N := 59) hx hb hts (fun _ h9 => List.mem_cons_of_mem _ (List.mem_append_right _ h9)) hown hK hP 0 rfl rfl 34 (by decide) (hts (.fieldLink RX12 331 "SeatsRoundModel" "turnings" "I") (List.mem_of_getElem? (i := 1) rfl)) (fun _ h9 => h9) rfl dX12_turning_1 ?_
  change W _ _ _ _ _ _ _ _ _ _ _ _ _ _ _ (F0 m 4 ls [.int 0])
  refine lv_bipush (v := 6) hx hb dX12_turning_4 (by decide) ?_
  refine lv_icmp_ne (tgt := 12) hx hb dX12_turning_6 (by decide) (fun _ => ?_) (fun c_1 => absurd c_1 (by decide))
  refine lv_aload_n hx hb dX12_turning_12 rfl (lv_at hl 0 rfl) ?_
  refine va_get (D := (dC, dI)) (ci := 12) (v := .ref m35) (C := RX12) (T := TX12) (N := 59) hx hb hts (fun _ h9 => List.mem_cons_of_mem _ (List.mem_append_right _ h9)) hown hK hP 0 rfl rfl 35 (by decide) (hts (.fieldLink RX12 92 "SeatsRoundModel" "turning" "[I") (List.mem_of_getElem? (i := 2) rfl)) (fun _ h9 => h9) rfl dX12_turning_13 ?_
  refine lv_aload_n hx hb dX12_turning_16 rfl (lv_at hl 0 rfl) ?_
  refine va_get (D := (dC, dI)) (ci := 12) (v := .int 0) (C := RX12) (T := TX12) (N := 59) hx hb hts (fun _ h9 => List.mem_cons_of_mem _ (List.mem_append_right _ h9)) hown hK hP 0 rfl rfl 34 (by decide) (hts (.fieldLink RX12 331 "SeatsRoundModel" "turnings" "I") (List.mem_of_getElem? (i := 1) rfl)) (fun _ h9 => h9) rfl dX12_turning_17 ?_
  refine lv_iload_n hx hb dX12_turning_20 rfl (lv_at hl 1 rfl) ?_
  refine va_iast hx hb hK hP hD hS 1 0 rfl rfl (vp_in_nI (n := 0) (N := 6) (by decide) (by decide)) dX12_turning_21 (fun H locs hP hD hS => ?_)
  generalize upd (fun _ => 0) (Int32.toNatClampNeg 0) p0 = g_2 at hP hD
  have hP : va_P (dC, dI) vwCl [(h0, .inr (12, [.int 0, .ref m1, .ref m2, .int 0, .ref m4, .ref m5, .ref m6, .ref m7, .ref m8, .int 0, .ref m10, .ref m11, .ref m12, .ref m13, .ref m14, .ref m15, .ref m16, .ref m17, .ref m18, .ref m19, .ref m20, .ref m21, .int 0, .ref m23, .ref m24, .ref m25, .ref m26, .ref m27, .ref m28, .int 0, .int 0, .ref m31, .int 0, .ref m33, .int 0, .ref m35, .int (-1), .ref m37, .int 0, .ref m39, .ref m40, .ref m41, .ref m42, .ref m43, .int 0, .int 0, .int 0, .int 0, .int 0, .int 0, .int 0, .int 0, .ref m52, .int 0, .ref m54, .int 0, .ref m56, .ref m57, .ref m58])), (m35, .inl (cy 0, 6, .inl g_2))] H := hP
  have hD : va_D A [(h0, .inr (12, [.int 0, .ref m1, .ref m2, .int 0, .ref m4, .ref m5, .ref m6, .ref m7, .ref m8, .int 0, .ref m10, .ref m11, .ref m12, .ref m13, .ref m14, .ref m15, .ref m16, .ref m17, .ref m18, .ref m19, .ref m20, .ref m21, .int 0, .ref m23, .ref m24, .ref m25, .ref m26, .ref m27, .ref m28, .int 0, .int 0, .ref m31, .int 0, .ref m33, .int 0, .ref m35, .int (-1), .ref m37, .int 0, .ref m39, .ref m40, .ref m41, .ref m42, .ref m43, .int 0, .int 0, .int 0, .int 0, .int 0, .int 0, .int 0, .int 0, .ref m52, .int 0, .ref m54, .int 0, .ref m56, .ref m57, .ref m58])), (m35, .inl (cy 0, 6, .inl g_2))] := hD
  change W _ _ _ _ _ _ _ _ _ _ _ _ _ _ _ (F0 m 22 ls [])
  refine lv_aload_n hx hb dX12_turning_22 rfl (lv_at hl 0 rfl) ?_
  refine lv_dup hx hb dX12_turning_23 rfl ?_
  refine va_get (D := (dC, dI)) (ci := 12) (v := .int 0) (C := RX12) (T := TX12) (N := 59) hx hb hts (fun _ h9 => List.mem_cons_of_mem _ (List.mem_append_right _ h9)) hown hK hP 0 rfl rfl 34 (by decide) (hts (.fieldLink RX12 331 "SeatsRoundModel" "turnings" "I") (List.mem_of_getElem? (i := 1) rfl)) (fun _ h9 => h9) rfl dX12_turning_24 ?_
  refine lv_iconst (v := 1) hx hb dX12_turning_27 (by decide) ?_
  refine lv_iadd hx hb dX12_turning_28 ?_
  refine lv_topi (fun f_3 ef_3 => ?_)
  obtain rfl : f_3 = 1 := ef_3.trans (by decide)
  refine va_put (D := (dC, dI)) (ci := 12) (v := .int 1) (C := RX12) (T := TX12) (N := 59) hx hb hts (fun _ h9 => List.mem_cons_of_mem _ (List.mem_append_right _ h9)) tyX12 tyX12_ok nmX12 hown hK hP hD hS 0 rfl rfl 34 (by decide) (hts (.fieldLink RX12 331 "SeatsRoundModel" "turnings" "I") (List.mem_of_getElem? (i := 1) rfl)) (fun _ h9 => h9) rfl (tyX12_ok 34 (by decide)) rfl rfl (Nat.le_of_ble_eq_true rfl) dX12_turning_29 (fun H locs hP hD hS => ?_)
  have hP : va_P (dC, dI) vwCl [(h0, .inr (12, [.int 0, .ref m1, .ref m2, .int 0, .ref m4, .ref m5, .ref m6, .ref m7, .ref m8, .int 0, .ref m10, .ref m11, .ref m12, .ref m13, .ref m14, .ref m15, .ref m16, .ref m17, .ref m18, .ref m19, .ref m20, .ref m21, .int 0, .ref m23, .ref m24, .ref m25, .ref m26, .ref m27, .ref m28, .int 0, .int 0, .ref m31, .int 0, .ref m33, .int 1, .ref m35, .int (-1), .ref m37, .int 0, .ref m39, .ref m40, .ref m41, .ref m42, .ref m43, .int 0, .int 0, .int 0, .int 0, .int 0, .int 0, .int 0, .int 0, .ref m52, .int 0, .ref m54, .int 0, .ref m56, .ref m57, .ref m58])), (m35, .inl (cy 0, 6, .inl g_2))] H := hP
  have hD : va_D A [(h0, .inr (12, [.int 0, .ref m1, .ref m2, .int 0, .ref m4, .ref m5, .ref m6, .ref m7, .ref m8, .int 0, .ref m10, .ref m11, .ref m12, .ref m13, .ref m14, .ref m15, .ref m16, .ref m17, .ref m18, .ref m19, .ref m20, .ref m21, .int 0, .ref m23, .ref m24, .ref m25, .ref m26, .ref m27, .ref m28, .int 0, .int 0, .ref m31, .int 0, .ref m33, .int 1, .ref m35, .int (-1), .ref m37, .int 0, .ref m39, .ref m40, .ref m41, .ref m42, .ref m43, .int 0, .int 0, .int 0, .int 0, .int 0, .int 0, .int 0, .int 0, .ref m52, .int 0, .ref m54, .int 0, .ref m56, .ref m57, .ref m58])), (m35, .inl (cy 0, 6, .inl g_2))] := hD
  refine lv_aload_n hx hb dX12_turning_32 rfl (lv_at hl 0 rfl) ?_
  refine va_get (D := (dC, dI)) (ci := 12) (v := .int 1) (C := RX12) (T := TX12) (N := 59) hx hb hts (fun _ h9 => List.mem_cons_of_mem _ (List.mem_append_right _ h9)) hown hK hP 0 rfl rfl 34 (by decide) (hts (.fieldLink RX12 331 "SeatsRoundModel" "turnings" "I") (List.mem_of_getElem? (i := 1) rfl)) (fun _ h9 => h9) rfl dX12_turning_33 ?_
  change W _ _ _ _ _ _ _ _ _ _ _ _ _ _ _ (F0 m 36 ls [.int 1])
  exact W.iret (v := 1) hx hb hr (fun t ht hW => ⟨⟨1, (), rfl, (by first | rfl | (exfalso; omega)), trivial⟩, hS.F ht⟩) hS.2.2 dX12_turning_36
set_option maxHeartbeats 4000000 in
set_option maxRecDepth 100000 in
theorem c_M_act (l : Launch) (dC : Nat → ClassId) (dI : Nat → Nat → Nat) (cy : Nat → ClassId) (h0 : Nat) (m1 : Nat) (m2 : Nat) (m4 : Nat) (m5 : Nat) (m6 : Nat) (m7 : Nat) (m8 : Nat) (m10 : Nat) (m11 : Nat) (m12 : Nat) (m13 : Nat) (m14 : Nat) (m15 : Nat) (m16 : Nat) (m17 : Nat) (m18 : Nat) (m19 : Nat) (m20 : Nat) (m21 : Nat) (m23 : Nat) (m24 : Nat) (m25 : Nat) (m26 : Nat) (m27 : Nat) (m28 : Nat) (m31 : Nat) (m33 : Nat) (m35 : Nat) (m37 : Nat) (m39 : Nat) (m40 : Nat) (m41 : Nat) (m42 : Nat) (m43 : Nat) (m52 : Nat) (m54 : Nat) (m56 : Nat) (m57 : Nat) (m58 : Nat) (p0 : Int32) (p1 : Int32) (p2 : Int32) (sz : Nat)  : Met l yX12_act wsX12_act ({ frames := 3, cells := 0, slots := 0, locals := 66 }) (va_Pc [.ref h0, .int p0, .int p1, .int p2] (wPre (dC, dI) cy [(h0, .inr (12, [.int 0, .ref m1, .ref m2, .int 0, .ref m4, .ref m5, .ref m6, .ref m7, .ref m8, .int 0, .ref m10, .ref m11, .ref m12, .ref m13, .ref m14, .ref m15, .ref m16, .ref m17, .ref m18, .ref m19, .ref m20, .ref m21, .int 0, .ref m23, .ref m24, .ref m25, .ref m26, .ref m27, .ref m28, .int 0, .int 0, .ref m31, .int 0, .ref m33, .int 0, .ref m35, .int (-1), .ref m37, .int 0, .ref m39, .ref m40, .ref m41, .ref m42, .ref m43, .int 0, .int 0, .int 0, .int 0, .int 0, .int 0, .int 0, .int 0, .ref m52, .int 0, .ref m54, .int 0, .ref m56, .ref m57, .ref m58]))] sz)) (va_Qi (fun (r : Int32) (u : Unit) => r = 0) (fun (u : Unit) t => True) (va_A [(h0, .inr (12, [.int 0, .ref m1, .ref m2, .int 0, .ref m4, .ref m5, .ref m6, .ref m7, .ref m8, .int 0, .ref m10, .ref m11, .ref m12, .ref m13, .ref m14, .ref m15, .ref m16, .ref m17, .ref m18, .ref m19, .ref m20, .ref m21, .int 0, .ref m23, .ref m24, .ref m25, .ref m26, .ref m27, .ref m28, .int 0, .int 0, .ref m31, .int 0, .ref m33, .int 0, .ref m35, .int (-1), .ref m37, .int 0, .ref m39, .ref m40, .ref m41, .ref m42, .ref m43, .int 0, .int 0, .int 0, .int 0, .int 0, .int 0, .int 0, .int 0, .ref m52, .int 0, .ref m54, .int 0, .ref m56, .ref m57, .ref m58]))] sz)) 0 0 (va_A [(h0, .inr (12, [.int 0, .ref m1, .ref m2, .int 0, .ref m4, .ref m5, .ref m6, .ref m7, .ref m8, .int 0, .ref m10, .ref m11, .ref m12, .ref m13, .ref m14, .ref m15, .ref m16, .ref m17, .ref m18, .ref m19, .ref m20, .ref m21, .int 0, .ref m23, .ref m24, .ref m25, .ref m26, .ref m27, .ref m28, .int 0, .int 0, .ref m31, .int 0, .ref m33, .int 0, .ref m35, .int (-1), .ref m37, .int 0, .ref m39, .ref m40, .ref m41, .ref m42, .ref m43, .int 0, .int 0, .int 0, .int 0, .int 0, .int 0, .int 0, .int 0, .ref m52, .int 0, .ref m54, .int 0, .ref m56, .ref m57, .ref m58]))] sz) := by
  refine Met.ofW (cc := cX12_act) (maxL := 5) (ret := (some .int)) (by decide) rfl ?_
  intro p e s m args below meth c s₁ B hml hv
  obtain ⟨rfl, hsz, hP, hK, hD0, hN⟩ := hv
  have hx := B.exec
  have hb := B.bytes
  have hr := B.returns
  have hts := atoms_spec (ws := wsX12_act) B.pre
  have hown : s.vm.findClass RX12 = some m.cls := findClass_of_methodNamed B.named
  have hlocks := B.notSynchronized
  subst hsz
  have hD := hD0.self (sz := s.heap.size)
  generalize hAe : va_A [(h0, .inr (12, [.int 0, .ref m1, .ref m2, .int 0, .ref m4, .ref m5, .ref m6, .ref m7, .ref m8, .int 0, .ref m10, .ref m11, .ref m12, .ref m13, .ref m14, .ref m15, .ref m16, .ref m17, .ref m18, .ref m19, .ref m20, .ref m21, .int 0, .ref m23, .ref m24, .ref m25, .ref m26, .ref m27, .ref m28, .int 0, .int 0, .ref m31, .int 0, .ref m33, .int 0, .ref m35, .int (-1), .ref m37, .int 0, .ref m39, .ref m40, .ref m41, .ref m42, .ref m43, .int 0, .int 0, .int 0, .int 0, .int 0, .int 0, .int 0, .int 0, .ref m52, .int 0, .ref m54, .int 0, .ref m56, .ref m57, .ref m58]))] s.heap.size = A at hD ⊢
  have hA : ∀ q : Nat, s.heap.size ≤ q → A q := fun q h => by rw [← hAe]; exact Or.inr h
  have hS : va_S A s.heap s.heap [] := va_S.rf
  have hl := lv_entry ([.ref h0, .int p0, .int p1, .int p2]) (n := 5) (Nat.le_of_ble_eq_true rfl)
  rw [lg_entry_eq]
  generalize (lg_sl ([.ref h0, .int p0, .int p1, .int p2]) ++ List.replicate (5 - (lg_sl ([.ref h0, .int p0, .int p1, .int p2])).length) Slot.unset).toArray = ls at hl ⊢
  have hl : lv_has ls 5 [(0, .ref h0), (1, .int p0), (2, .int p1), (3, .int p2)] := hl
  refine lv_aload_n hx hb dX12_act_0 rfl (lv_at hl 0 rfl) ?_
  refine lv_iconst (v := 0) hx hb dX12_act_1 (by decide) ?_
  refine va_put (D := (dC, dI)) (ci := 12) (v := .int 0) (C := RX12) (T := TX12) (N := 59) hx hb hts (fun _ h9 => List.mem_cons_of_mem _ (List.mem_append_right _ h9)) tyX12 tyX12_ok nmX12 hown hK hP hD hS 0 rfl rfl 38 (by decide) (hts (.fieldLink RX12 334 "SeatsRoundModel" "bodies" "I") (List.mem_of_getElem? (i := 1) rfl)) (fun _ h9 => h9) rfl (tyX12_ok 38 (by decide)) rfl rfl (Nat.le_of_ble_eq_true rfl) dX12_act_2 (fun H locs hP hD hS => ?_)
  have hP : va_P (dC, dI) vwCl [(h0, .inr (12, [.int 0, .ref m1, .ref m2, .int 0, .ref m4, .ref m5, .ref m6, .ref m7, .ref m8, .int 0, .ref m10, .ref m11, .ref m12, .ref m13, .ref m14, .ref m15, .ref m16, .ref m17, .ref m18, .ref m19, .ref m20, .ref m21, .int 0, .ref m23, .ref m24, .ref m25, .ref m26, .ref m27, .ref m28, .int 0, .int 0, .ref m31, .int 0, .ref m33, .int 0, .ref m35, .int (-1), .ref m37, .int 0, .ref m39, .ref m40, .ref m41, .ref m42, .ref m43, .int 0, .int 0, .int 0, .int 0, .int 0, .int 0, .int 0, .int 0, .ref m52, .int 0, .ref m54, .int 0, .ref m56, .ref m57, .ref m58]))] H := hP
  have hD : va_D A [(h0, .inr (12, [.int 0, .ref m1, .ref m2, .int 0, .ref m4, .ref m5, .ref m6, .ref m7, .ref m8, .int 0, .ref m10, .ref m11, .ref m12, .ref m13, .ref m14, .ref m15, .ref m16, .ref m17, .ref m18, .ref m19, .ref m20, .ref m21, .int 0, .ref m23, .ref m24, .ref m25, .ref m26, .ref m27, .ref m28, .int 0, .int 0, .ref m31, .int 0, .ref m33, .int 0, .ref m35, .int (-1), .ref m37, .int 0, .ref m39, .ref m40, .ref m41, .ref m42, .ref m43, .int 0, .int 0, .int 0, .int 0, .int 0, .int 0, .int 0, .int 0, .ref m52, .int 0, .ref m54, .int 0, .ref m56, .ref m57, .ref m58]))] := hD
  refine lv_aload_n hx hb dX12_act_5 rfl (lv_at hl 0 rfl) ?_
  refine lv_iload_n hx hb dX12_act_6 rfl (lv_at hl 1 rfl) ?_
  have hPc := hP.sub (ws' := [(h0, .inr (12, [.int 0, .ref m1, .ref m2, .int 0, .ref m4, .ref m5, .ref m6, .ref m7, .ref m8, .int 0, .ref m10, .ref m11, .ref m12, .ref m13, .ref m14, .ref m15, .ref m16, .ref m17, .ref m18, .ref m19, .ref m20, .ref m21, .int 0, .ref m23, .ref m24, .ref m25, .ref m26, .ref m27, .ref m28, .int 0, .int 0, .ref m31, .int 0, .ref m33, .int 0, .ref m35, .int (-1), .ref m37, .int 0, .ref m39, .ref m40, .ref m41, .ref m42, .ref m43, .int 0, .int 0, .int 0, .int 0, .int 0, .int 0, .int 0, .int 0, .ref m52, .int 0, .ref m54, .int 0, .ref m56, .ref m57, .ref m58]))]) [0] rfl
  have hDc := hD.sub (ws' := [(h0, .inr (12, [.int 0, .ref m1, .ref m2, .int 0, .ref m4, .ref m5, .ref m6, .ref m7, .ref m8, .int 0, .ref m10, .ref m11, .ref m12, .ref m13, .ref m14, .ref m15, .ref m16, .ref m17, .ref m18, .ref m19, .ref m20, .ref m21, .int 0, .ref m23, .ref m24, .ref m25, .ref m26, .ref m27, .ref m28, .int 0, .int 0, .ref m31, .int 0, .ref m33, .int 0, .ref m35, .int (-1), .ref m37, .int 0, .ref m39, .ref m40, .ref m41, .ref m42, .ref m43, .int 0, .int 0, .int 0, .int 0, .int 0, .int 0, .int 0, .int 0, .ref m52, .int 0, .ref m54, .int 0, .ref m56, .ref m57, .ref m58]))]) [0] (by decide) rfl
  refine vz_callSi (va_runV (As := [.int p0]) (rest := []) ⟨hx, hb, hml, hown, hts⟩ (c_M_isKeeper l dC dI cy h0 m1 m2 m4 m5 m6 m7 m8 m10 m11 m12 m13 m14 m15 m16 m17 m18 m19 m20 m21 m23 m24 m25 m26 m27 m28 m31 m33 m35 m37 m39 m40 m41 m42 m43 m52 m54 m56 m57 m58 p0 H.size) (cwV 1 hts gX12_act_X12_isKeeper rfl rfl rfl (by decide +kernel) ⟨Nat.le_of_ble_eq_true rfl, Nat.le_of_ble_eq_true rfl⟩) (wp_V hK hN hPc hDc (va_recv hK hPc (ci := 12) (q0 := 0) rfl rfl)) rfl rfl hl.1 rfl (lv_room (Nat.le_of_ble_eq_true rfl)) dX12_act_7 ⟨Nat.le_of_ble_eq_true rfl, Nat.le_of_ble_eq_true rfl⟩) (fun r_1 hw_1 => ?_)
  obtain rfl : r_1 = 0 := hw_1
  refine lv_if_eq (tgt := 22) hx hb dX12_act_10 (by decide) (fun _ => ?_) (fun c_2 => absurd c_2 (by decide))
  refine lv_iconst (v := 0) hx hb dX12_act_22 (by decide) ?_
  change W _ _ _ _ _ _ _ _ _ _ _ _ _ _ _ (F0 m 23 ls [.int 0])
  exact W.iret (v := 0) hx hb hr (fun t ht hW => ⟨⟨0, (), rfl, (by first | rfl | (exfalso; omega)), trivial⟩, hS.F ht⟩) hS.2.2 dX12_act_23
set_option maxHeartbeats 4000000 in
set_option maxRecDepth 100000 in
theorem c_M_keep (l : Launch) (dC : Nat → ClassId) (dI : Nat → Nat → Nat) (cy : Nat → ClassId) (h0 : Nat) (m1 : Nat) (m2 : Nat) (m4 : Nat) (m5 : Nat) (m6 : Nat) (m7 : Nat) (m8 : Nat) (m10 : Nat) (m11 : Nat) (m12 : Nat) (m13 : Nat) (m14 : Nat) (m15 : Nat) (m16 : Nat) (m17 : Nat) (m18 : Nat) (m19 : Nat) (m20 : Nat) (m21 : Nat) (m23 : Nat) (m24 : Nat) (m25 : Nat) (m26 : Nat) (m27 : Nat) (m28 : Nat) (m31 : Nat) (m33 : Nat) (m35 : Nat) (m37 : Nat) (m39 : Nat) (m40 : Nat) (m41 : Nat) (m42 : Nat) (m43 : Nat) (m52 : Nat) (m54 : Nat) (m56 : Nat) (m57 : Nat) (m58 : Nat) (p0 : Int32) (p1 : Int32) (sz : Nat)  : Met l yX12_keep wsX12_keep ({ frames := 3, cells := 0, slots := 0, locals := 66 }) (va_Pc [.ref h0, .int p0, .int p1] (wPre (dC, dI) cy [(h0, .inr (12, [.int 0, .ref m1, .ref m2, .int 0, .ref m4, .ref m5, .ref m6, .ref m7, .ref m8, .int 0, .ref m10, .ref m11, .ref m12, .ref m13, .ref m14, .ref m15, .ref m16, .ref m17, .ref m18, .ref m19, .ref m20, .ref m21, .int 0, .ref m23, .ref m24, .ref m25, .ref m26, .ref m27, .ref m28, .int 0, .int 0, .ref m31, .int 0, .ref m33, .int 0, .ref m35, .int (-1), .ref m37, .int 0, .ref m39, .ref m40, .ref m41, .ref m42, .ref m43, .int 0, .int 0, .int 0, .int 0, .int 0, .int 0, .int 0, .int 0, .ref m52, .int 0, .ref m54, .int 0, .ref m56, .ref m57, .ref m58])), (m39, .inl (cy 0, 6, .inl (fun _ => (-1)))), (m40, .inl (cy 0, 6, .inl (fun _ => (-1))))] sz)) (va_Qi (fun (r : Int32) (u : Unit) => r = sp_keep p0 p1) (fun (u : Unit) t => True) (va_A [(h0, .inr (12, [.int 0, .ref m1, .ref m2, .int 0, .ref m4, .ref m5, .ref m6, .ref m7, .ref m8, .int 0, .ref m10, .ref m11, .ref m12, .ref m13, .ref m14, .ref m15, .ref m16, .ref m17, .ref m18, .ref m19, .ref m20, .ref m21, .int 0, .ref m23, .ref m24, .ref m25, .ref m26, .ref m27, .ref m28, .int 0, .int 0, .ref m31, .int 0, .ref m33, .int 0, .ref m35, .int (-1), .ref m37, .int 0, .ref m39, .ref m40, .ref m41, .ref m42, .ref m43, .int 0, .int 0, .int 0, .int 0, .int 0, .int 0, .int 0, .int 0, .ref m52, .int 0, .ref m54, .int 0, .ref m56, .ref m57, .ref m58])), (m39, .inl (cy 0, 6, .inl (fun _ => (-1)))), (m40, .inl (cy 0, 6, .inl (fun _ => (-1))))] sz)) 0 0 (va_A [(h0, .inr (12, [.int 0, .ref m1, .ref m2, .int 0, .ref m4, .ref m5, .ref m6, .ref m7, .ref m8, .int 0, .ref m10, .ref m11, .ref m12, .ref m13, .ref m14, .ref m15, .ref m16, .ref m17, .ref m18, .ref m19, .ref m20, .ref m21, .int 0, .ref m23, .ref m24, .ref m25, .ref m26, .ref m27, .ref m28, .int 0, .int 0, .ref m31, .int 0, .ref m33, .int 0, .ref m35, .int (-1), .ref m37, .int 0, .ref m39, .ref m40, .ref m41, .ref m42, .ref m43, .int 0, .int 0, .int 0, .int 0, .int 0, .int 0, .int 0, .int 0, .ref m52, .int 0, .ref m54, .int 0, .ref m56, .ref m57, .ref m58])), (m39, .inl (cy 0, 6, .inl (fun _ => (-1)))), (m40, .inl (cy 0, 6, .inl (fun _ => (-1))))] sz) := by
  refine Met.ofW (cc := cX12_keep) (maxL := 3) (ret := (some .int)) (by decide) rfl ?_
  intro p e s m args below meth c s₁ B hml hv
  obtain ⟨rfl, hsz, hP, hK, hD0, hN⟩ := hv
  have hx := B.exec
  have hb := B.bytes
  have hr := B.returns
  have hts := atoms_spec (ws := wsX12_keep) B.pre
  have hown : s.vm.findClass RX12 = some m.cls := findClass_of_methodNamed B.named
  have hlocks := B.notSynchronized
  subst hsz
  have hD := hD0.self (sz := s.heap.size)
  generalize hAe : va_A [(h0, .inr (12, [.int 0, .ref m1, .ref m2, .int 0, .ref m4, .ref m5, .ref m6, .ref m7, .ref m8, .int 0, .ref m10, .ref m11, .ref m12, .ref m13, .ref m14, .ref m15, .ref m16, .ref m17, .ref m18, .ref m19, .ref m20, .ref m21, .int 0, .ref m23, .ref m24, .ref m25, .ref m26, .ref m27, .ref m28, .int 0, .int 0, .ref m31, .int 0, .ref m33, .int 0, .ref m35, .int (-1), .ref m37, .int 0, .ref m39, .ref m40, .ref m41, .ref m42, .ref m43, .int 0, .int 0, .int 0, .int 0, .int 0, .int 0, .int 0, .int 0, .ref m52, .int 0, .ref m54, .int 0, .ref m56, .ref m57, .ref m58])), (m39, .inl (cy 0, 6, .inl (fun _ => (-1)))), (m40, .inl (cy 0, 6, .inl (fun _ => (-1))))] s.heap.size = A at hD ⊢
  have hA : ∀ q : Nat, s.heap.size ≤ q → A q := fun q h => by rw [← hAe]; exact Or.inr h
  have hS : va_S A s.heap s.heap [] := va_S.rf
  have hl := lv_entry ([.ref h0, .int p0, .int p1]) (n := 3) (Nat.le_of_ble_eq_true rfl)
  rw [lg_entry_eq]
  generalize (lg_sl ([.ref h0, .int p0, .int p1]) ++ List.replicate (3 - (lg_sl ([.ref h0, .int p0, .int p1])).length) Slot.unset).toArray = ls at hl ⊢
  have hl : lv_has ls 3 [(0, .ref h0), (1, .int p0), (2, .int p1)] := hl
  refine lv_iload_n hx hb dX12_keep_0 rfl (lv_at hl 1 rfl) ?_
  have hPc := hP.sub (ws' := []) [] rfl
  have hDc := hD.sub (ws' := []) [] (by decide) rfl
  refine vz_callSi (va_runS (As := [.int p0]) (rest := []) ⟨hx, hb, hml, hown, hts⟩ (c_M_isShelf l dC dI cy p0 s.heap.size) (va_cwS 1 hts gX12_keep_X12_isShelf rfl rfl rfl (by decide +kernel) ⟨Nat.le_of_ble_eq_true rfl, Nat.le_of_ble_eq_true rfl⟩) (wp_S hK hN hPc hDc) rfl rfl hl.1 rfl (lv_room (Nat.le_of_ble_eq_true rfl)) dX12_keep_1 ⟨Nat.le_of_ble_eq_true rfl, Nat.le_of_ble_eq_true rfl⟩) (fun r_1 hw_1 => ?_)
  rcases hw_1 with ⟨c_1, hw_1⟩ | ⟨c_1, hw_1⟩ <;> subst hw_1
  · have ic_1 : 0 ≤ p0.toInt ∧ p0.toInt ≤ 5 := c_1
    refine lv_if_eq (tgt := 20) hx hb dX12_keep_4 (by decide) (fun c_2 => absurd c_2 (by decide)) (fun _ => ?_)
    change W _ _ _ _ _ _ _ _ _ _ _ _ _ _ _ (F0 m 7 ls [])
    refine lv_iload_n hx hb dX12_keep_7 rfl (lv_at hl 2 rfl) ?_
    refine lv_iconst (v := (-1)) hx hb dX12_keep_8 (by decide) ?_
    refine lv_icmp_eq (tgt := 22) hx hb dX12_keep_9 (by decide) (fun c_3 => ?_) (fun c_3 => ?_)
    · have ic_3 : p1.toInt = (-1 : Int) := congrArg Int32.toInt c_3
      refine lv_aload_n hx hb dX12_keep_22 rfl (lv_at hl 0 rfl) ?_
      refine va_get (D := (dC, dI)) (ci := 12) (v := .ref m39) (C := RX12) (T := TX12) (N := 59) hx hb hts (fun _ h9 => List.mem_cons_of_mem _ (List.mem_append_right _ h9)) hown hK hP 0 rfl rfl 39 (by decide) (hts (.fieldLink RX12 102 "SeatsRoundModel" "shelfIs" "[I") (List.mem_of_getElem? (i := 1) rfl)) (fun _ h9 => h9) rfl dX12_keep_23 ?_
      refine lv_iload_n hx hb dX12_keep_26 rfl (lv_at hl 1 rfl) ?_
      refine lv_iload_n hx hb dX12_keep_27 rfl (lv_at hl 2 rfl) ?_
      refine va_iast hx hb hK hP hD hS 1 0 rfl rfl (vp_in_iff.mpr ⟨by omega, by omega⟩) dX12_keep_28 (fun H locs hP hD hS => ?_)
      generalize upd (fun _ => (-1)) (Int32.toNatClampNeg p0) p1 = g_4 at hP hD
      have hP : va_P (dC, dI) vwCl [(h0, .inr (12, [.int 0, .ref m1, .ref m2, .int 0, .ref m4, .ref m5, .ref m6, .ref m7, .ref m8, .int 0, .ref m10, .ref m11, .ref m12, .ref m13, .ref m14, .ref m15, .ref m16, .ref m17, .ref m18, .ref m19, .ref m20, .ref m21, .int 0, .ref m23, .ref m24, .ref m25, .ref m26, .ref m27, .ref m28, .int 0, .int 0, .ref m31, .int 0, .ref m33, .int 0, .ref m35, .int (-1), .ref m37, .int 0, .ref m39, .ref m40, .ref m41, .ref m42, .ref m43, .int 0, .int 0, .int 0, .int 0, .int 0, .int 0, .int 0, .int 0, .ref m52, .int 0, .ref m54, .int 0, .ref m56, .ref m57, .ref m58])), (m39, .inl (cy 0, 6, .inl g_4)), (m40, .inl (cy 0, 6, .inl (fun _ => (-1))))] H := hP
      have hD : va_D A [(h0, .inr (12, [.int 0, .ref m1, .ref m2, .int 0, .ref m4, .ref m5, .ref m6, .ref m7, .ref m8, .int 0, .ref m10, .ref m11, .ref m12, .ref m13, .ref m14, .ref m15, .ref m16, .ref m17, .ref m18, .ref m19, .ref m20, .ref m21, .int 0, .ref m23, .ref m24, .ref m25, .ref m26, .ref m27, .ref m28, .int 0, .int 0, .ref m31, .int 0, .ref m33, .int 0, .ref m35, .int (-1), .ref m37, .int 0, .ref m39, .ref m40, .ref m41, .ref m42, .ref m43, .int 0, .int 0, .int 0, .int 0, .int 0, .int 0, .int 0, .int 0, .ref m52, .int 0, .ref m54, .int 0, .ref m56, .ref m57, .ref m58])), (m39, .inl (cy 0, 6, .inl g_4)), (m40, .inl (cy 0, 6, .inl (fun _ => (-1))))] := hD
      refine lv_aload_n hx hb dX12_keep_29 rfl (lv_at hl 0 rfl) ?_
      change W _ _ _ _ _ _ _ _ _ _ _ _ _ _ _ (F0 m 30 ls [.ref h0])
      refine va_get (D := (dC, dI)) (ci := 12) (v := .ref m40) (C := RX12) (T := TX12) (N := 59) hx hb hts (fun _ h9 => List.mem_cons_of_mem _ (List.mem_append_right _ h9)) hown hK hP 0 rfl rfl 40 (by decide) (hts (.fieldLink RX12 105 "SeatsRoundModel" "shelfSort" "[I") (List.mem_of_getElem? (i := 2) rfl)) (fun _ h9 => h9) rfl dX12_keep_30 ?_
      refine lv_iload_n hx hb dX12_keep_33 rfl (lv_at hl 1 rfl) ?_
      refine lv_iconst (v := (-1)) hx hb dX12_keep_34 (by decide) ?_
      refine va_iast hx hb hK hP hD hS 2 0 rfl rfl (vp_in_iff.mpr ⟨by omega, by omega⟩) dX12_keep_35 (fun H locs hP hD hS => ?_)
      generalize upd (fun _ => (-1)) (Int32.toNatClampNeg p0) (-1) = g_5 at hP hD
      have hP : va_P (dC, dI) vwCl [(h0, .inr (12, [.int 0, .ref m1, .ref m2, .int 0, .ref m4, .ref m5, .ref m6, .ref m7, .ref m8, .int 0, .ref m10, .ref m11, .ref m12, .ref m13, .ref m14, .ref m15, .ref m16, .ref m17, .ref m18, .ref m19, .ref m20, .ref m21, .int 0, .ref m23, .ref m24, .ref m25, .ref m26, .ref m27, .ref m28, .int 0, .int 0, .ref m31, .int 0, .ref m33, .int 0, .ref m35, .int (-1), .ref m37, .int 0, .ref m39, .ref m40, .ref m41, .ref m42, .ref m43, .int 0, .int 0, .int 0, .int 0, .int 0, .int 0, .int 0, .int 0, .ref m52, .int 0, .ref m54, .int 0, .ref m56, .ref m57, .ref m58])), (m39, .inl (cy 0, 6, .inl g_4)), (m40, .inl (cy 0, 6, .inl g_5))] H := hP
      have hD : va_D A [(h0, .inr (12, [.int 0, .ref m1, .ref m2, .int 0, .ref m4, .ref m5, .ref m6, .ref m7, .ref m8, .int 0, .ref m10, .ref m11, .ref m12, .ref m13, .ref m14, .ref m15, .ref m16, .ref m17, .ref m18, .ref m19, .ref m20, .ref m21, .int 0, .ref m23, .ref m24, .ref m25, .ref m26, .ref m27, .ref m28, .int 0, .int 0, .ref m31, .int 0, .ref m33, .int 0, .ref m35, .int (-1), .ref m37, .int 0, .ref m39, .ref m40, .ref m41, .ref m42, .ref m43, .int 0, .int 0, .int 0, .int 0, .int 0, .int 0, .int 0, .int 0, .ref m52, .int 0, .ref m54, .int 0, .ref m56, .ref m57, .ref m58])), (m39, .inl (cy 0, 6, .inl g_4)), (m40, .inl (cy 0, 6, .inl g_5))] := hD
      refine lv_iconst (v := 1) hx hb dX12_keep_36 (by decide) ?_
      exact W.iret (v := 1) hx hb hr (fun t ht hW => ⟨⟨1, (), rfl, (by unfold sp_keep; split <;> (try split) <;> first | rfl | (exfalso; omega)), trivial⟩, hS.F ht⟩) hS.2.2 dX12_keep_37
    · have ic_3 : ¬ p1.toInt = (-1 : Int) := fun h9 => c_3 (Int32.toInt_inj.mp h9)
      refine lv_aload_n hx hb dX12_keep_12 rfl (lv_at hl 0 rfl) ?_
      refine lv_iload_n hx hb dX12_keep_13 rfl (lv_at hl 2 rfl) ?_
      have hPc := hP.sub (ws' := [(h0, .inr (12, [.int 0, .ref m1, .ref m2, .int 0, .ref m4, .ref m5, .ref m6, .ref m7, .ref m8, .int 0, .ref m10, .ref m11, .ref m12, .ref m13, .ref m14, .ref m15, .ref m16, .ref m17, .ref m18, .ref m19, .ref m20, .ref m21, .int 0, .ref m23, .ref m24, .ref m25, .ref m26, .ref m27, .ref m28, .int 0, .int 0, .ref m31, .int 0, .ref m33, .int 0, .ref m35, .int (-1), .ref m37, .int 0, .ref m39, .ref m40, .ref m41, .ref m42, .ref m43, .int 0, .int 0, .int 0, .int 0, .int 0, .int 0, .int 0, .int 0, .ref m52, .int 0, .ref m54, .int 0, .ref m56, .ref m57, .ref m58]))]) [0] rfl
      have hDc := hD.sub (ws' := [(h0, .inr (12, [.int 0, .ref m1, .ref m2, .int 0, .ref m4, .ref m5, .ref m6, .ref m7, .ref m8, .int 0, .ref m10, .ref m11, .ref m12, .ref m13, .ref m14, .ref m15, .ref m16, .ref m17, .ref m18, .ref m19, .ref m20, .ref m21, .int 0, .ref m23, .ref m24, .ref m25, .ref m26, .ref m27, .ref m28, .int 0, .int 0, .ref m31, .int 0, .ref m33, .int 0, .ref m35, .int (-1), .ref m37, .int 0, .ref m39, .ref m40, .ref m41, .ref m42, .ref m43, .int 0, .int 0, .int 0, .int 0, .int 0, .int 0, .int 0, .int 0, .ref m52, .int 0, .ref m54, .int 0, .ref m56, .ref m57, .ref m58]))]) [0] (by decide) rfl
      refine vz_callSi (va_runV (As := [.int p1]) (rest := []) ⟨hx, hb, hml, hown, hts⟩ (c_M_isKeeper l dC dI cy h0 m1 m2 m4 m5 m6 m7 m8 m10 m11 m12 m13 m14 m15 m16 m17 m18 m19 m20 m21 m23 m24 m25 m26 m27 m28 m31 m33 m35 m37 m39 m40 m41 m42 m43 m52 m54 m56 m57 m58 p1 s.heap.size) (cwV 1 hts gX12_keep_X12_isKeeper rfl rfl rfl (by decide +kernel) ⟨Nat.le_of_ble_eq_true rfl, Nat.le_of_ble_eq_true rfl⟩) (wp_V hK hN hPc hDc (va_recv hK hPc (ci := 12) (q0 := 0) rfl rfl)) rfl rfl hl.1 rfl (lv_room (Nat.le_of_ble_eq_true rfl)) dX12_keep_14 ⟨Nat.le_of_ble_eq_true rfl, Nat.le_of_ble_eq_true rfl⟩) (fun r_6 hw_6 => ?_)
      obtain rfl : r_6 = 0 := hw_6
      change W _ _ _ _ _ _ _ _ _ _ _ _ _ _ _ (F0 m 17 ls [.int 0])
      refine lv_if_ne (tgt := 22) hx hb dX12_keep_17 (by decide) (fun c_7 => absurd c_7 (by decide)) (fun _ => ?_)
      refine lv_iconst (v := (-1)) hx hb dX12_keep_20 (by decide) ?_
      exact W.iret (v := (-1)) hx hb hr (fun t ht hW => ⟨⟨(-1), (), rfl, (by unfold sp_keep; split <;> (try split) <;> first | rfl | (exfalso; omega)), trivial⟩, hS.F ht⟩) hS.2.2 dX12_keep_21
  · have ic_1 : ¬ (0 ≤ p0.toInt ∧ p0.toInt ≤ 5) := c_1
    refine lv_if_eq (tgt := 20) hx hb dX12_keep_4 (by decide) (fun _ => ?_) (fun c_8 => absurd c_8 (by decide))
    refine lv_iconst (v := (-1)) hx hb dX12_keep_20 (by decide) ?_
    exact W.iret (v := (-1)) hx hb hr (fun t ht hW => ⟨⟨(-1), (), rfl, (by unfold sp_keep; split <;> (try split) <;> first | rfl | (exfalso; omega)), trivial⟩, hS.F ht⟩) hS.2.2 dX12_keep_21
set_option maxHeartbeats 4000000 in
set_option maxRecDepth 100000 in
theorem c_M_put (l : Launch) (dC : Nat → ClassId) (dI : Nat → Nat → Nat) (cy : Nat → ClassId) (h0 : Nat) (m1 : Nat) (m2 : Nat) (m4 : Nat) (m5 : Nat) (m6 : Nat) (m7 : Nat) (m8 : Nat) (m10 : Nat) (m11 : Nat) (m12 : Nat) (m13 : Nat) (m14 : Nat) (m15 : Nat) (m16 : Nat) (m17 : Nat) (m18 : Nat) (m19 : Nat) (m20 : Nat) (m21 : Nat) (m23 : Nat) (m24 : Nat) (m25 : Nat) (m26 : Nat) (m27 : Nat) (m28 : Nat) (m31 : Nat) (m33 : Nat) (m35 : Nat) (m37 : Nat) (m39 : Nat) (m40 : Nat) (m41 : Nat) (m42 : Nat) (m43 : Nat) (m52 : Nat) (m54 : Nat) (m56 : Nat) (m57 : Nat) (m58 : Nat) (p0 : Int32) (p1 : Int32) (p2 : Int64) (sz : Nat)  : Met l yX12_put wsX12_put ({ frames := 4, cells := 0, slots := 0, locals := 87 }) (va_Pc [.ref h0, .int p0, .int p1, .long p2] (wPre (dC, dI) cy [(h0, .inr (12, [.int 0, .ref m1, .ref m2, .int 0, .ref m4, .ref m5, .ref m6, .ref m7, .ref m8, .int 0, .ref m10, .ref m11, .ref m12, .ref m13, .ref m14, .ref m15, .ref m16, .ref m17, .ref m18, .ref m19, .ref m20, .ref m21, .int 0, .ref m23, .ref m24, .ref m25, .ref m26, .ref m27, .ref m28, .int 0, .int 0, .ref m31, .int 0, .ref m33, .int 0, .ref m35, .int (-1), .ref m37, .int 0, .ref m39, .ref m40, .ref m41, .ref m42, .ref m43, .int 0, .int 0, .int 0, .int 0, .int 0, .int 0, .int 0, .int 0, .ref m52, .int 0, .ref m54, .int 0, .ref m56, .ref m57, .ref m58])), (m39, .inl (cy 0, 6, .inl (fun _ => (-1)))), (m40, .inl (cy 0, 6, .inl (fun _ => (-1))))] sz)) (va_Qi (fun (r : Int32) (u : Unit) => r = sp_put p0) (fun (u : Unit) t => True) (va_A [(h0, .inr (12, [.int 0, .ref m1, .ref m2, .int 0, .ref m4, .ref m5, .ref m6, .ref m7, .ref m8, .int 0, .ref m10, .ref m11, .ref m12, .ref m13, .ref m14, .ref m15, .ref m16, .ref m17, .ref m18, .ref m19, .ref m20, .ref m21, .int 0, .ref m23, .ref m24, .ref m25, .ref m26, .ref m27, .ref m28, .int 0, .int 0, .ref m31, .int 0, .ref m33, .int 0, .ref m35, .int (-1), .ref m37, .int 0, .ref m39, .ref m40, .ref m41, .ref m42, .ref m43, .int 0, .int 0, .int 0, .int 0, .int 0, .int 0, .int 0, .int 0, .ref m52, .int 0, .ref m54, .int 0, .ref m56, .ref m57, .ref m58])), (m39, .inl (cy 0, 6, .inl (fun _ => (-1)))), (m40, .inl (cy 0, 6, .inl (fun _ => (-1))))] sz)) 0 0 (va_A [(h0, .inr (12, [.int 0, .ref m1, .ref m2, .int 0, .ref m4, .ref m5, .ref m6, .ref m7, .ref m8, .int 0, .ref m10, .ref m11, .ref m12, .ref m13, .ref m14, .ref m15, .ref m16, .ref m17, .ref m18, .ref m19, .ref m20, .ref m21, .int 0, .ref m23, .ref m24, .ref m25, .ref m26, .ref m27, .ref m28, .int 0, .int 0, .ref m31, .int 0, .ref m33, .int 0, .ref m35, .int (-1), .ref m37, .int 0, .ref m39, .ref m40, .ref m41, .ref m42, .ref m43, .int 0, .int 0, .int 0, .int 0, .int 0, .int 0, .int 0, .int 0, .ref m52, .int 0, .ref m54, .int 0, .ref m56, .ref m57, .ref m58])), (m39, .inl (cy 0, 6, .inl (fun _ => (-1)))), (m40, .inl (cy 0, 6, .inl (fun _ => (-1))))] sz) := by
  refine Met.ofW (cc := cX12_put) (maxL := 7) (ret := (some .int)) (by decide) rfl ?_
  intro p e s m args below meth c s₁ B hml hv
  obtain ⟨rfl, hsz, hP, hK, hD0, hN⟩ := hv
  have hx := B.exec
  have hb := B.bytes
  have hr := B.returns
  have hts := atoms_spec (ws := wsX12_put) B.pre
  have hown : s.vm.findClass RX12 = some m.cls := findClass_of_methodNamed B.named
  have hlocks := B.notSynchronized
  subst hsz
  have hD := hD0.self (sz := s.heap.size)
  generalize hAe : va_A [(h0, .inr (12, [.int 0, .ref m1, .ref m2, .int 0, .ref m4, .ref m5, .ref m6, .ref m7, .ref m8, .int 0, .ref m10, .ref m11, .ref m12, .ref m13, .ref m14, .ref m15, .ref m16, .ref m17, .ref m18, .ref m19, .ref m20, .ref m21, .int 0, .ref m23, .ref m24, .ref m25, .ref m26, .ref m27, .ref m28, .int 0, .int 0, .ref m31, .int 0, .ref m33, .int 0, .ref m35, .int (-1), .ref m37, .int 0, .ref m39, .ref m40, .ref m41, .ref m42, .ref m43, .int 0, .int 0, .int 0, .int 0, .int 0, .int 0, .int 0, .int 0, .ref m52, .int 0, .ref m54, .int 0, .ref m56, .ref m57, .ref m58])), (m39, .inl (cy 0, 6, .inl (fun _ => (-1)))), (m40, .inl (cy 0, 6, .inl (fun _ => (-1))))] s.heap.size = A at hD ⊢
  have hA : ∀ q : Nat, s.heap.size ≤ q → A q := fun q h => by rw [← hAe]; exact Or.inr h
  have hS : va_S A s.heap s.heap [] := va_S.rf
  have hl := lv_entry ([.ref h0, .int p0, .int p1, .long p2]) (n := 7) (Nat.le_of_ble_eq_true rfl)
  rw [lg_entry_eq]
  generalize (lg_sl ([.ref h0, .int p0, .int p1, .long p2]) ++ List.replicate (7 - (lg_sl ([.ref h0, .int p0, .int p1, .long p2])).length) Slot.unset).toArray = ls at hl ⊢
  have hl : lv_has ls 7 [(0, .ref h0), (1, .int p0), (2, .int p1), (3, .long p2)] := hl
  refine lv_aload_n hx hb dX12_put_0 rfl (lv_at hl 0 rfl) ?_
  change W _ _ _ _ _ _ _ _ _ _ _ _ _ _ _ (F0 m 1 ls [.ref h0])
  refine lv_iload_n hx hb dX12_put_1 rfl (lv_at hl 1 rfl) ?_
  refine lv_iload_n hx hb dX12_put_2 rfl (lv_at hl 2 rfl) ?_
  have hPc := hP.sub (ws' := [(h0, .inr (12, [.int 0, .ref m1, .ref m2, .int 0, .ref m4, .ref m5, .ref m6, .ref m7, .ref m8, .int 0, .ref m10, .ref m11, .ref m12, .ref m13, .ref m14, .ref m15, .ref m16, .ref m17, .ref m18, .ref m19, .ref m20, .ref m21, .int 0, .ref m23, .ref m24, .ref m25, .ref m26, .ref m27, .ref m28, .int 0, .int 0, .ref m31, .int 0, .ref m33, .int 0, .ref m35, .int (-1), .ref m37, .int 0, .ref m39, .ref m40, .ref m41, .ref m42, .ref m43, .int 0, .int 0, .int 0, .int 0, .int 0, .int 0, .int 0, .int 0, .ref m52, .int 0, .ref m54, .int 0, .ref m56, .ref m57, .ref m58])), (m39, .inl (cy 0, 6, .inl (fun _ => (-1)))), (m40, .inl (cy 0, 6, .inl (fun _ => (-1))))]) [0, 1, 2] rfl
  have hDc := hD.sub (ws' := [(h0, .inr (12, [.int 0, .ref m1, .ref m2, .int 0, .ref m4, .ref m5, .ref m6, .ref m7, .ref m8, .int 0, .ref m10, .ref m11, .ref m12, .ref m13, .ref m14, .ref m15, .ref m16, .ref m17, .ref m18, .ref m19, .ref m20, .ref m21, .int 0, .ref m23, .ref m24, .ref m25, .ref m26, .ref m27, .ref m28, .int 0, .int 0, .ref m31, .int 0, .ref m33, .int 0, .ref m35, .int (-1), .ref m37, .int 0, .ref m39, .ref m40, .ref m41, .ref m42, .ref m43, .int 0, .int 0, .int 0, .int 0, .int 0, .int 0, .int 0, .int 0, .ref m52, .int 0, .ref m54, .int 0, .ref m56, .ref m57, .ref m58])), (m39, .inl (cy 0, 6, .inl (fun _ => (-1)))), (m40, .inl (cy 0, 6, .inl (fun _ => (-1))))]) [0, 1, 2] (by decide) rfl
  refine vz_callSi (va_runV (As := [.int p0, .int p1]) (rest := []) ⟨hx, hb, hml, hown, hts⟩ (c_M_barred l dC dI cy h0 m1 m2 m4 m5 m6 m7 m8 m10 m11 m12 m13 m14 m15 m16 m17 m18 m19 m20 m21 m23 m24 m25 m26 m27 m28 m31 m33 m35 m37 m39 m40 m41 m42 m43 m52 m54 m56 m57 m58 p0 p1 s.heap.size) (cwV 2 hts gX12_put_X12_barred rfl rfl rfl (by decide +kernel) ⟨Nat.le_of_ble_eq_true rfl, Nat.le_of_ble_eq_true rfl⟩) (wp_V hK hN hPc hDc (va_recv hK hPc (ci := 12) (q0 := 0) rfl rfl)) rfl rfl hl.1 rfl (lv_room (Nat.le_of_ble_eq_true rfl)) dX12_put_3 ⟨Nat.le_of_ble_eq_true rfl, Nat.le_of_ble_eq_true rfl⟩) (fun r_1 hw_1 => ?_)
  rcases hw_1 with ⟨c_1, hw_1⟩ | ⟨c_1, hw_1⟩ <;> subst hw_1
  · have ic_1 : 0 ≤ p0.toInt ∧ p0.toInt ≤ 5 := c_1
    refine lv_istore (lv' := [(5, .int (-11)), (0, .ref h0), (1, .int p0), (2, .int p1), (3, .long p2)]) hx hb dX12_put_6 hl (by decide) rfl (fun ls hl => ?_)
    refine lv_iload hx hb dX12_put_8 (lv_at hl 0 rfl) ?_
    refine lv_if_eq (tgt := 16) hx hb dX12_put_10 (by decide) (fun c_2 => absurd c_2 (by decide)) (fun _ => ?_)
    refine lv_iload hx hb dX12_put_13 (lv_at hl 0 rfl) ?_
    exact W.iret (v := (-11)) hx hb hr (fun t ht hW => ⟨⟨(-11), (), rfl, (by unfold sp_put; split <;> (try split) <;> first | rfl | (exfalso; omega)), trivial⟩, hS.F ht⟩) hS.2.2 dX12_put_15
  · have ic_1 : ¬ (0 ≤ p0.toInt ∧ p0.toInt ≤ 5) := c_1
    refine lv_istore (lv' := [(5, .int (-1)), (0, .ref h0), (1, .int p0), (2, .int p1), (3, .long p2)]) hx hb dX12_put_6 hl (by decide) rfl (fun ls hl => ?_)
    refine lv_iload hx hb dX12_put_8 (lv_at hl 0 rfl) ?_
    change W _ _ _ _ _ _ _ _ _ _ _ _ _ _ _ (F0 m 10 ls [.int (-1)])
    refine lv_if_eq (tgt := 16) hx hb dX12_put_10 (by decide) (fun c_3 => absurd c_3 (by decide)) (fun _ => ?_)
    refine lv_iload hx hb dX12_put_13 (lv_at hl 0 rfl) ?_
    exact W.iret (v := (-1)) hx hb hr (fun t ht hW => ⟨⟨(-1), (), rfl, (by unfold sp_put; split <;> (try split) <;> first | rfl | (exfalso; omega)), trivial⟩, hS.F ht⟩) hS.2.2 dX12_put_15
set_option maxHeartbeats 4000000 in
set_option maxRecDepth 100000 in
theorem c_M_element (l : Launch) (dC : Nat → ClassId) (dI : Nat → Nat → Nat) (cy : Nat → ClassId) (h0 : Nat) (m1 : Nat) (m2 : Nat) (m4 : Nat) (m5 : Nat) (m6 : Nat) (m7 : Nat) (m8 : Nat) (m10 : Nat) (m11 : Nat) (m12 : Nat) (m13 : Nat) (m14 : Nat) (m15 : Nat) (m16 : Nat) (m17 : Nat) (m18 : Nat) (m19 : Nat) (m20 : Nat) (m21 : Nat) (m23 : Nat) (m24 : Nat) (m25 : Nat) (m26 : Nat) (m27 : Nat) (m28 : Nat) (m31 : Nat) (m33 : Nat) (m35 : Nat) (m37 : Nat) (m39 : Nat) (m40 : Nat) (m41 : Nat) (m42 : Nat) (m43 : Nat) (m52 : Nat) (m54 : Nat) (m56 : Nat) (m57 : Nat) (m58 : Nat) (p0 : Int32) (p1 : Int32) (sz : Nat)  : Met l yX12_element wsX12_element ({ frames := 4, cells := 0, slots := 0, locals := 87 }) (va_Pc [.ref h0, .int p0, .int p1] (wPre (dC, dI) cy [(h0, .inr (12, [.int 0, .ref m1, .ref m2, .int 0, .ref m4, .ref m5, .ref m6, .ref m7, .ref m8, .int 0, .ref m10, .ref m11, .ref m12, .ref m13, .ref m14, .ref m15, .ref m16, .ref m17, .ref m18, .ref m19, .ref m20, .ref m21, .int 0, .ref m23, .ref m24, .ref m25, .ref m26, .ref m27, .ref m28, .int 0, .int 0, .ref m31, .int 0, .ref m33, .int 0, .ref m35, .int (-1), .ref m37, .int 0, .ref m39, .ref m40, .ref m41, .ref m42, .ref m43, .int 0, .int 0, .int 0, .int 0, .int 0, .int 0, .int 0, .int 0, .ref m52, .int 0, .ref m54, .int 0, .ref m56, .ref m57, .ref m58])), (m39, .inl (cy 0, 6, .inl (fun _ => (-1)))), (m40, .inl (cy 0, 6, .inl (fun _ => (-1))))] sz)) (va_Ql (fun (r : Int64) (u : Unit) => r = -9223372036854775808) (fun (u : Unit) t => True) (va_A [(h0, .inr (12, [.int 0, .ref m1, .ref m2, .int 0, .ref m4, .ref m5, .ref m6, .ref m7, .ref m8, .int 0, .ref m10, .ref m11, .ref m12, .ref m13, .ref m14, .ref m15, .ref m16, .ref m17, .ref m18, .ref m19, .ref m20, .ref m21, .int 0, .ref m23, .ref m24, .ref m25, .ref m26, .ref m27, .ref m28, .int 0, .int 0, .ref m31, .int 0, .ref m33, .int 0, .ref m35, .int (-1), .ref m37, .int 0, .ref m39, .ref m40, .ref m41, .ref m42, .ref m43, .int 0, .int 0, .int 0, .int 0, .int 0, .int 0, .int 0, .int 0, .ref m52, .int 0, .ref m54, .int 0, .ref m56, .ref m57, .ref m58])), (m39, .inl (cy 0, 6, .inl (fun _ => (-1)))), (m40, .inl (cy 0, 6, .inl (fun _ => (-1))))] sz)) 0 0 (va_A [(h0, .inr (12, [.int 0, .ref m1, .ref m2, .int 0, .ref m4, .ref m5, .ref m6, .ref m7, .ref m8, .int 0, .ref m10, .ref m11, .ref m12, .ref m13, .ref m14, .ref m15, .ref m16, .ref m17, .ref m18, .ref m19, .ref m20, .ref m21, .int 0, .ref m23, .ref m24, .ref m25, .ref m26, .ref m27, .ref m28, .int 0, .int 0, .ref m31, .int 0, .ref m33, .int 0, .ref m35, .int (-1), .ref m37, .int 0, .ref m39, .ref m40, .ref m41, .ref m42, .ref m43, .int 0, .int 0, .int 0, .int 0, .int 0, .int 0, .int 0, .int 0, .ref m52, .int 0, .ref m54, .int 0, .ref m56, .ref m57, .ref m58])), (m39, .inl (cy 0, 6, .inl (fun _ => (-1)))), (m40, .inl (cy 0, 6, .inl (fun _ => (-1))))] sz) := by
  refine Met.ofW (cc := cX12_element) (maxL := 3) (ret := (some .long)) (by decide) rfl ?_
  intro p e s m args below meth c s₁ B hml hv
  obtain ⟨rfl, hsz, hP, hK, hD0, hN⟩ := hv
  have hx := B.exec
  have hb := B.bytes
  have hr := B.returns
  have hts := atoms_spec (ws := wsX12_element) B.pre
  have hown : s.vm.findClass RX12 = some m.cls := findClass_of_methodNamed B.named
  have hlocks := B.notSynchronized
  subst hsz
  have hD := hD0.self (sz := s.heap.size)
  generalize hAe : va_A [(h0, .inr (12, [.int 0, .ref m1, .ref m2, .int 0, .ref m4, .ref m5, .ref m6, .ref m7, .ref m8, .int 0, .ref m10, .ref m11, .ref m12, .ref m13, .ref m14, .ref m15, .ref m16, .ref m17, .ref m18, .ref m19, .ref m20, .ref m21, .int 0, .ref m23, .ref m24, .ref m25, .ref m26, .ref m27, .ref m28, .int 0, .int 0, .ref m31, .int 0, .ref m33, .int 0, .ref m35, .int (-1), .ref m37, .int 0, .ref m39, .ref m40, .ref m41, .ref m42, .ref m43, .int 0, .int 0, .int 0, .int 0, .int 0, .int 0, .int 0, .int 0, .ref m52, .int 0, .ref m54, .int 0, .ref m56, .ref m57, .ref m58])), (m39, .inl (cy 0, 6, .inl (fun _ => (-1)))), (m40, .inl (cy 0, 6, .inl (fun _ => (-1))))] s.heap.size = A at hD ⊢
  have hA : ∀ q : Nat, s.heap.size ≤ q → A q := fun q h => by rw [← hAe]; exact Or.inr h
  have hS : va_S A s.heap s.heap [] := va_S.rf
  have hl := lv_entry ([.ref h0, .int p0, .int p1]) (n := 3) (Nat.le_of_ble_eq_true rfl)
  rw [lg_entry_eq]
  generalize (lg_sl ([.ref h0, .int p0, .int p1]) ++ List.replicate (3 - (lg_sl ([.ref h0, .int p0, .int p1])).length) Slot.unset).toArray = ls at hl ⊢
  have hl : lv_has ls 3 [(0, .ref h0), (1, .int p0), (2, .int p1)] := hl
  refine lv_aload_n hx hb dX12_element_0 rfl (lv_at hl 0 rfl) ?_
  refine lv_iload_n hx hb dX12_element_1 rfl (lv_at hl 1 rfl) ?_
  refine lv_iload_n hx hb dX12_element_2 rfl (lv_at hl 2 rfl) ?_
  have hPc := hP.sub (ws' := [(h0, .inr (12, [.int 0, .ref m1, .ref m2, .int 0, .ref m4, .ref m5, .ref m6, .ref m7, .ref m8, .int 0, .ref m10, .ref m11, .ref m12, .ref m13, .ref m14, .ref m15, .ref m16, .ref m17, .ref m18, .ref m19, .ref m20, .ref m21, .int 0, .ref m23, .ref m24, .ref m25, .ref m26, .ref m27, .ref m28, .int 0, .int 0, .ref m31, .int 0, .ref m33, .int 0, .ref m35, .int (-1), .ref m37, .int 0, .ref m39, .ref m40, .ref m41, .ref m42, .ref m43, .int 0, .int 0, .int 0, .int 0, .int 0, .int 0, .int 0, .int 0, .ref m52, .int 0, .ref m54, .int 0, .ref m56, .ref m57, .ref m58])), (m39, .inl (cy 0, 6, .inl (fun _ => (-1)))), (m40, .inl (cy 0, 6, .inl (fun _ => (-1))))]) [0, 1, 2] rfl
  have hDc := hD.sub (ws' := [(h0, .inr (12, [.int 0, .ref m1, .ref m2, .int 0, .ref m4, .ref m5, .ref m6, .ref m7, .ref m8, .int 0, .ref m10, .ref m11, .ref m12, .ref m13, .ref m14, .ref m15, .ref m16, .ref m17, .ref m18, .ref m19, .ref m20, .ref m21, .int 0, .ref m23, .ref m24, .ref m25, .ref m26, .ref m27, .ref m28, .int 0, .int 0, .ref m31, .int 0, .ref m33, .int 0, .ref m35, .int (-1), .ref m37, .int 0, .ref m39, .ref m40, .ref m41, .ref m42, .ref m43, .int 0, .int 0, .int 0, .int 0, .int 0, .int 0, .int 0, .int 0, .ref m52, .int 0, .ref m54, .int 0, .ref m56, .ref m57, .ref m58])), (m39, .inl (cy 0, 6, .inl (fun _ => (-1)))), (m40, .inl (cy 0, 6, .inl (fun _ => (-1))))]) [0, 1, 2] (by decide) rfl
  refine vz_callSi (va_runV (As := [.int p0, .int p1]) (rest := []) ⟨hx, hb, hml, hown, hts⟩ (c_M_barred l dC dI cy h0 m1 m2 m4 m5 m6 m7 m8 m10 m11 m12 m13 m14 m15 m16 m17 m18 m19 m20 m21 m23 m24 m25 m26 m27 m28 m31 m33 m35 m37 m39 m40 m41 m42 m43 m52 m54 m56 m57 m58 p0 p1 s.heap.size) (cwV 2 hts gX12_element_X12_barred rfl rfl rfl (by decide +kernel) ⟨Nat.le_of_ble_eq_true rfl, Nat.le_of_ble_eq_true rfl⟩) (wp_V hK hN hPc hDc (va_recv hK hPc (ci := 12) (q0 := 0) rfl rfl)) rfl rfl hl.1 rfl (lv_room (Nat.le_of_ble_eq_true rfl)) dX12_element_3 ⟨Nat.le_of_ble_eq_true rfl, Nat.le_of_ble_eq_true rfl⟩) (fun r_1 hw_1 => ?_)
  rcases hw_1 with ⟨c_1, hw_1⟩ | ⟨c_1, hw_1⟩ <;> subst hw_1
  · have ic_1 : 0 ≤ p0.toInt ∧ p0.toInt ≤ 5 := c_1
    refine lv_if_eq (tgt := 15) hx hb dX12_element_6 (by decide) (fun c_2 => absurd c_2 (by decide)) (fun _ => ?_)
    refine lv_ldc2 hx hb hown (hts (.constantLong RX12 361 (-9223372036854775808)) (List.mem_of_getElem? (i := 1) rfl)) dX12_element_9 ?_
    change W _ _ _ _ _ _ _ _ _ _ _ _ _ _ _ (F0 m 12 ls [.long (-9223372036854775808)])
    refine lv_goto (tgt := 26) hx hb dX12_element_12 (by decide) ?_
    exact W.lret (v := (-9223372036854775808)) hx hb hr (fun t ht hW => ⟨⟨(-9223372036854775808), (), rfl, rfl, trivial⟩, hS.F ht⟩) hS.2.2 dX12_element_26
  · have ic_1 : ¬ (0 ≤ p0.toInt ∧ p0.toInt ≤ 5) := c_1
    refine lv_if_eq (tgt := 15) hx hb dX12_element_6 (by decide) (fun c_3 => absurd c_3 (by decide)) (fun _ => ?_)
    refine lv_ldc2 hx hb hown (hts (.constantLong RX12 361 (-9223372036854775808)) (List.mem_of_getElem? (i := 1) rfl)) dX12_element_9 ?_
    refine lv_goto (tgt := 26) hx hb dX12_element_12 (by decide) ?_
    exact W.lret (v := (-9223372036854775808)) hx hb hr (fun t ht hW => ⟨⟨(-9223372036854775808), (), rfl, rfl, trivial⟩, hS.F ht⟩) hS.2.2 dX12_element_26
set_option maxHeartbeats 4000000 in
set_option maxRecDepth 100000 in
theorem c_M_shift (l : Launch) (dC : Nat → ClassId) (dI : Nat → Nat → Nat) (cy : Nat → ClassId) (h0 : Nat) (m1 : Nat) (m2 : Nat) (m4 : Nat) (m5 : Nat) (m6 : Nat) (m7 : Nat) (m8 : Nat) (m10 : Nat) (m11 : Nat) (m12 : Nat) (m13 : Nat) (m14 : Nat) (m15 : Nat) (m16 : Nat) (m17 : Nat) (m18 : Nat) (m19 : Nat) (m20 : Nat) (m21 : Nat) (m23 : Nat) (m24 : Nat) (m25 : Nat) (m26 : Nat) (m27 : Nat) (m28 : Nat) (m31 : Nat) (m33 : Nat) (m35 : Nat) (m37 : Nat) (m39 : Nat) (m40 : Nat) (m41 : Nat) (m42 : Nat) (m43 : Nat) (m52 : Nat) (m54 : Nat) (m56 : Nat) (m57 : Nat) (m58 : Nat) (p0 : Int32) (p1 : Int32) (p2 : Int32) (p3 : Int32) (p4 : Int32) (sz : Nat)  : Met l yX12_shift wsX12_shift ({ frames := 3, cells := 0, slots := 0, locals := 65 }) (va_Pc [.ref h0, .int p0, .int p1, .int p2, .int p3, .int p4] (wPre (dC, dI) cy [(h0, .inr (12, [.int 0, .ref m1, .ref m2, .int 0, .ref m4, .ref m5, .ref m6, .ref m7, .ref m8, .int 0, .ref m10, .ref m11, .ref m12, .ref m13, .ref m14, .ref m15, .ref m16, .ref m17, .ref m18, .ref m19, .ref m20, .ref m21, .int 0, .ref m23, .ref m24, .ref m25, .ref m26, .ref m27, .ref m28, .int 0, .int 0, .ref m31, .int 0, .ref m33, .int 0, .ref m35, .int (-1), .ref m37, .int 0, .ref m39, .ref m40, .ref m41, .ref m42, .ref m43, .int 0, .int 0, .int 0, .int 0, .int 0, .int 0, .int 0, .int 0, .ref m52, .int 0, .ref m54, .int 0, .ref m56, .ref m57, .ref m58])), (m39, .inl (cy 0, 6, .inl (fun _ => (-1)))), (m40, .inl (cy 0, 6, .inl (fun _ => (-1))))] sz)) (va_Qi (fun (r : Int32) (u : Unit) => r = sp_shift p0 p2) (fun (u : Unit) t => True) (va_A [(h0, .inr (12, [.int 0, .ref m1, .ref m2, .int 0, .ref m4, .ref m5, .ref m6, .ref m7, .ref m8, .int 0, .ref m10, .ref m11, .ref m12, .ref m13, .ref m14, .ref m15, .ref m16, .ref m17, .ref m18, .ref m19, .ref m20, .ref m21, .int 0, .ref m23, .ref m24, .ref m25, .ref m26, .ref m27, .ref m28, .int 0, .int 0, .ref m31, .int 0, .ref m33, .int 0, .ref m35, .int (-1), .ref m37, .int 0, .ref m39, .ref m40, .ref m41, .ref m42, .ref m43, .int 0, .int 0, .int 0, .int 0, .int 0, .int 0, .int 0, .int 0, .ref m52, .int 0, .ref m54, .int 0, .ref m56, .ref m57, .ref m58])), (m39, .inl (cy 0, 6, .inl (fun _ => (-1)))), (m40, .inl (cy 0, 6, .inl (fun _ => (-1))))] sz)) 0 0 (va_A [(h0, .inr (12, [.int 0, .ref m1, .ref m2, .int 0, .ref m4, .ref m5, .ref m6, .ref m7, .ref m8, .int 0, .ref m10, .ref m11, .ref m12, .ref m13, .ref m14, .ref m15, .ref m16, .ref m17, .ref m18, .ref m19, .ref m20, .ref m21, .int 0, .ref m23, .ref m24, .ref m25, .ref m26, .ref m27, .ref m28, .int 0, .int 0, .ref m31, .int 0, .ref m33, .int 0, .ref m35, .int (-1), .ref m37, .int 0, .ref m39, .ref m40, .ref m41, .ref m42, .ref m43, .int 0, .int 0, .int 0, .int 0, .int 0, .int 0, .int 0, .int 0, .ref m52, .int 0, .ref m54, .int 0, .ref m56, .ref m57, .ref m58])), (m39, .inl (cy 0, 6, .inl (fun _ => (-1)))), (m40, .inl (cy 0, 6, .inl (fun _ => (-1))))] sz) := by
  refine Met.ofW (cc := cX12_shift) (maxL := 10) (ret := (some .int)) (by decide) rfl ?_
  intro p e s m args below meth c s₁ B hml hv
  obtain ⟨rfl, hsz, hP, hK, hD0, hN⟩ := hv
  have hx := B.exec
  have hb := B.bytes
  have hr := B.returns
  have hts := atoms_spec (ws := wsX12_shift) B.pre
  have hown : s.vm.findClass RX12 = some m.cls := findClass_of_methodNamed B.named
  have hlocks := B.notSynchronized
  subst hsz
  have hD := hD0.self (sz := s.heap.size)
  generalize hAe : va_A [(h0, .inr (12, [.int 0, .ref m1, .ref m2, .int 0, .ref m4, .ref m5, .ref m6, .ref m7, .ref m8, .int 0, .ref m10, .ref m11, .ref m12, .ref m13, .ref m14, .ref m15, .ref m16, .ref m17, .ref m18, .ref m19, .ref m20, .ref m21, .int 0, .ref m23, .ref m24, .ref m25, .ref m26, .ref m27, .ref m28, .int 0, .int 0, .ref m31, .int 0, .ref m33, .int 0, .ref m35, .int (-1), .ref m37, .int 0, .ref m39, .ref m40, .ref m41, .ref m42, .ref m43, .int 0, .int 0, .int 0, .int 0, .int 0, .int 0, .int 0, .int 0, .ref m52, .int 0, .ref m54, .int 0, .ref m56, .ref m57, .ref m58])), (m39, .inl (cy 0, 6, .inl (fun _ => (-1)))), (m40, .inl (cy 0, 6, .inl (fun _ => (-1))))] s.heap.size = A at hD ⊢
  have hA : ∀ q : Nat, s.heap.size ≤ q → A q := fun q h => by rw [← hAe]; exact Or.inr h
  have hS : va_S A s.heap s.heap [] := va_S.rf
  have hl := lv_entry ([.ref h0, .int p0, .int p1, .int p2, .int p3, .int p4]) (n := 10) (Nat.le_of_ble_eq_true rfl)
  rw [lg_entry_eq]
  generalize (lg_sl ([.ref h0, .int p0, .int p1, .int p2, .int p3, .int p4]) ++ List.replicate (10 - (lg_sl ([.ref h0, .int p0, .int p1, .int p2, .int p3, .int p4])).length) Slot.unset).toArray = ls at hl ⊢
  have hl : lv_has ls 10 [(0, .ref h0), (1, .int p0), (2, .int p1), (3, .int p2), (4, .int p3), (5, .int p4)] := hl
  refine lv_iload_n hx hb dX12_shift_0 rfl (lv_at hl 1 rfl) ?_
  change W _ _ _ _ _ _ _ _ _ _ _ _ _ _ _ (F0 m 1 ls [.int p0])
  have hPc := hP.sub (ws' := []) [] rfl
  have hDc := hD.sub (ws' := []) [] (by decide) rfl
  refine vz_callSi (va_runS (As := [.int p0]) (rest := []) ⟨hx, hb, hml, hown, hts⟩ (c_M_isShelf l dC dI cy p0 s.heap.size) (va_cwS 1 hts gX12_shift_X12_isShelf rfl rfl rfl (by decide +kernel) ⟨Nat.le_of_ble_eq_true rfl, Nat.le_of_ble_eq_true rfl⟩) (wp_S hK hN hPc hDc) rfl rfl hl.1 rfl (lv_room (Nat.le_of_ble_eq_true rfl)) dX12_shift_1 ⟨Nat.le_of_ble_eq_true rfl, Nat.le_of_ble_eq_true rfl⟩) (fun r_1 hw_1 => ?_)
  rcases hw_1 with ⟨c_1, hw_1⟩ | ⟨c_1, hw_1⟩ <;> subst hw_1
  · have ic_1 : 0 ≤ p0.toInt ∧ p0.toInt ≤ 5 := c_1
    refine lv_if_eq (tgt := 14) hx hb dX12_shift_4 (by decide) (fun c_2 => absurd c_2 (by decide)) (fun _ => ?_)
    refine lv_iload_n hx hb dX12_shift_7 rfl (lv_at hl 3 rfl) ?_
    have hPc := hP.sub (ws' := []) [] rfl
    have hDc := hD.sub (ws' := []) [] (by decide) rfl
    refine vz_callSi (va_runS (As := [.int p2]) (rest := []) ⟨hx, hb, hml, hown, hts⟩ (c_M_isShelf l dC dI cy p2 s.heap.size) (va_cwS 1 hts gX12_shift_X12_isShelf rfl rfl rfl (by decide +kernel) ⟨Nat.le_of_ble_eq_true rfl, Nat.le_of_ble_eq_true rfl⟩) (wp_S hK hN hPc hDc) rfl rfl hl.1 rfl (lv_room (Nat.le_of_ble_eq_true rfl)) dX12_shift_8 ⟨Nat.le_of_ble_eq_true rfl, Nat.le_of_ble_eq_true rfl⟩) (fun r_3 hw_3 => ?_)
    rcases hw_3 with ⟨c_3, hw_3⟩ | ⟨c_3, hw_3⟩ <;> subst hw_3
    · have ic_3 : 0 ≤ p2.toInt ∧ p2.toInt ≤ 5 := c_3
      refine lv_if_ne (tgt := 16) hx hb dX12_shift_11 (by decide) (fun _ => ?_) (fun c_4 => absurd c_4 (by decide))
      refine lv_aload_n hx hb dX12_shift_16 rfl (lv_at hl 0 rfl) ?_
      refine va_get (D := (dC, dI)) (ci := 12) (v := .ref m40) (C := RX12) (T := TX12) (N := 59) hx hb hts (fun _ h9 => List.mem_cons_of_mem _ (List.mem_append_right _ h9)) hown hK hP 0 rfl rfl 40 (by decide) (hts (.fieldLink RX12 105 "SeatsRoundModel" "shelfSort" "[I") (List.mem_of_getElem? (i := 1) rfl)) (fun _ h9 => h9) rfl dX12_shift_17 ?_
      refine lv_iload_n hx hb dX12_shift_20 rfl (lv_at hl 1 rfl) ?_
      refine va_iald hx hb hK hP 2 0 rfl rfl (vp_in_iff.mpr ⟨by omega, by omega⟩) dX12_shift_21 ?_
      refine lv_topi (fun f_5 ef_5 => ?_)
      obtain rfl : f_5 = (-1) := ef_5
      refine lv_if_ge (tgt := 34) hx hb dX12_shift_22 (by decide) (fun c_6 => absurd c_6 (by decide)) (fun _ => ?_)
      change W _ _ _ _ _ _ _ _ _ _ _ _ _ _ _ (F0 m 25 ls [])
      refine lv_aload_n hx hb dX12_shift_25 rfl (lv_at hl 0 rfl) ?_
      refine va_get (D := (dC, dI)) (ci := 12) (v := .ref m39) (C := RX12) (T := TX12) (N := 59) hx hb hts (fun _ h9 => List.mem_cons_of_mem _ (List.mem_append_right _ h9)) hown hK hP 0 rfl rfl 39 (by decide) (hts (.fieldLink RX12 102 "SeatsRoundModel" "shelfIs" "[I") (List.mem_of_getElem? (i := 2) rfl)) (fun _ h9 => h9) rfl dX12_shift_26 ?_
      refine lv_iload_n hx hb dX12_shift_29 rfl (lv_at hl 1 rfl) ?_
      refine va_iald hx hb hK hP 1 0 rfl rfl (vp_in_iff.mpr ⟨by omega, by omega⟩) dX12_shift_30 ?_
      refine lv_topi (fun f_7 ef_7 => ?_)
      obtain rfl : f_7 = (-1) := ef_7
      refine lv_if_lt (tgt := 52) hx hb dX12_shift_31 (by decide) (fun _ => ?_) (fun c_8 => absurd c_8 (by decide))
      refine lv_bipush (v := (-11)) hx hb dX12_shift_52 (by decide) ?_
      exact W.iret (v := (-11)) hx hb hr (fun t ht hW => ⟨⟨(-11), (), rfl, (by unfold sp_shift; split <;> (try split) <;> first | rfl | (exfalso; omega)), trivial⟩, hS.F ht⟩) hS.2.2 dX12_shift_54
    · have ic_3 : ¬ (0 ≤ p2.toInt ∧ p2.toInt ≤ 5) := c_3
      refine lv_if_ne (tgt := 16) hx hb dX12_shift_11 (by decide) (fun c_9 => absurd c_9 (by decide)) (fun _ => ?_)
      refine lv_iconst (v := (-1)) hx hb dX12_shift_14 (by decide) ?_
      change W _ _ _ _ _ _ _ _ _ _ _ _ _ _ _ (F0 m 15 ls [.int (-1)])
      exact W.iret (v := (-1)) hx hb hr (fun t ht hW => ⟨⟨(-1), (), rfl, (by unfold sp_shift; split <;> (try split) <;> first | rfl | (exfalso; omega)), trivial⟩, hS.F ht⟩) hS.2.2 dX12_shift_15
  · have ic_1 : ¬ (0 ≤ p0.toInt ∧ p0.toInt ≤ 5) := c_1
    refine lv_if_eq (tgt := 14) hx hb dX12_shift_4 (by decide) (fun _ => ?_) (fun c_10 => absurd c_10 (by decide))
    refine lv_iconst (v := (-1)) hx hb dX12_shift_14 (by decide) ?_
    exact W.iret (v := (-1)) hx hb hr (fun t ht hW => ⟨⟨(-1), (), rfl, (by unfold sp_shift; split <;> (try split) <;> first | rfl | (exfalso; omega)), trivial⟩, hS.F ht⟩) hS.2.2 dX12_shift_15
set_option maxHeartbeats 4000000 in
set_option maxRecDepth 100000 in
theorem c_M_taken (l : Launch) (dC : Nat → ClassId) (dI : Nat → Nat → Nat) (cy : Nat → ClassId) (h0 : Nat) (m1 : Nat) (m2 : Nat) (m4 : Nat) (m5 : Nat) (m6 : Nat) (m7 : Nat) (m8 : Nat) (m10 : Nat) (m11 : Nat) (m12 : Nat) (m13 : Nat) (m14 : Nat) (m15 : Nat) (m16 : Nat) (m17 : Nat) (m18 : Nat) (m19 : Nat) (m20 : Nat) (m21 : Nat) (m23 : Nat) (m24 : Nat) (m25 : Nat) (m26 : Nat) (m27 : Nat) (m28 : Nat) (m31 : Nat) (m33 : Nat) (m35 : Nat) (m37 : Nat) (m39 : Nat) (m40 : Nat) (m41 : Nat) (m42 : Nat) (m43 : Nat) (m52 : Nat) (m54 : Nat) (m56 : Nat) (m57 : Nat) (m58 : Nat) (p0 : Int32) (p1 : Int32) (sz : Nat)  : Met l yX12_taken wsX12_taken ({ frames := 3, cells := 0, slots := 0, locals := 65 }) (va_Pc [.ref h0, .int p0, .int p1] (wPre (dC, dI) cy [(h0, .inr (12, [.int 0, .ref m1, .ref m2, .int 0, .ref m4, .ref m5, .ref m6, .ref m7, .ref m8, .int 0, .ref m10, .ref m11, .ref m12, .ref m13, .ref m14, .ref m15, .ref m16, .ref m17, .ref m18, .ref m19, .ref m20, .ref m21, .int 0, .ref m23, .ref m24, .ref m25, .ref m26, .ref m27, .ref m28, .int 0, .int 0, .ref m31, .int 0, .ref m33, .int 0, .ref m35, .int (-1), .ref m37, .int 0, .ref m39, .ref m40, .ref m41, .ref m42, .ref m43, .int 0, .int 0, .int 0, .int 0, .int 0, .int 0, .int 0, .int 0, .ref m52, .int 0, .ref m54, .int 0, .ref m56, .ref m57, .ref m58])), (m39, .inl (cy 0, 6, .inl (fun _ => (-1)))), (m40, .inl (cy 0, 6, .inl (fun _ => (-1))))] sz)) (va_Qi (fun (r : Int32) (u : Unit) => r = sp_taken p0 p1) (fun (u : Unit) t => True) (va_A [(h0, .inr (12, [.int 0, .ref m1, .ref m2, .int 0, .ref m4, .ref m5, .ref m6, .ref m7, .ref m8, .int 0, .ref m10, .ref m11, .ref m12, .ref m13, .ref m14, .ref m15, .ref m16, .ref m17, .ref m18, .ref m19, .ref m20, .ref m21, .int 0, .ref m23, .ref m24, .ref m25, .ref m26, .ref m27, .ref m28, .int 0, .int 0, .ref m31, .int 0, .ref m33, .int 0, .ref m35, .int (-1), .ref m37, .int 0, .ref m39, .ref m40, .ref m41, .ref m42, .ref m43, .int 0, .int 0, .int 0, .int 0, .int 0, .int 0, .int 0, .int 0, .ref m52, .int 0, .ref m54, .int 0, .ref m56, .ref m57, .ref m58])), (m39, .inl (cy 0, 6, .inl (fun _ => (-1)))), (m40, .inl (cy 0, 6, .inl (fun _ => (-1))))] sz)) 0 0 (va_A [(h0, .inr (12, [.int 0, .ref m1, .ref m2, .int 0, .ref m4, .ref m5, .ref m6, .ref m7, .ref m8, .int 0, .ref m10, .ref m11, .ref m12, .ref m13, .ref m14, .ref m15, .ref m16, .ref m17, .ref m18, .ref m19, .ref m20, .ref m21, .int 0, .ref m23, .ref m24, .ref m25, .ref m26, .ref m27, .ref m28, .int 0, .int 0, .ref m31, .int 0, .ref m33, .int 0, .ref m35, .int (-1), .ref m37, .int 0, .ref m39, .ref m40, .ref m41, .ref m42, .ref m43, .int 0, .int 0, .int 0, .int 0, .int 0, .int 0, .int 0, .int 0, .ref m52, .int 0, .ref m54, .int 0, .ref m56, .ref m57, .ref m58])), (m39, .inl (cy 0, 6, .inl (fun _ => (-1)))), (m40, .inl (cy 0, 6, .inl (fun _ => (-1))))] sz) := by
  refine Met.ofW (cc := cX12_taken) (maxL := 4) (ret := (some .int)) (by decide) rfl ?_
  intro p e s m args below meth c s₁ B hml hv
  obtain ⟨rfl, hsz, hP, hK, hD0, hN⟩ := hv
  have hx := B.exec
  have hb := B.bytes
  have hr := B.returns
  have hts := atoms_spec (ws := wsX12_taken) B.pre
  have hown : s.vm.findClass RX12 = some m.cls := findClass_of_methodNamed B.named
  have hlocks := B.notSynchronized
  subst hsz
  have hD := hD0.self (sz := s.heap.size)
  generalize hAe : va_A [(h0, .inr (12, [.int 0, .ref m1, .ref m2, .int 0, .ref m4, .ref m5, .ref m6, .ref m7, .ref m8, .int 0, .ref m10, .ref m11, .ref m12, .ref m13, .ref m14, .ref m15, .ref m16, .ref m17, .ref m18, .ref m19, .ref m20, .ref m21, .int 0, .ref m23, .ref m24, .ref m25, .ref m26, .ref m27, .ref m28, .int 0, .int 0, .ref m31, .int 0, .ref m33, .int 0, .ref m35, .int (-1), .ref m37, .int 0, .ref m39, .ref m40, .ref m41, .ref m42, .ref m43, .int 0, .int 0, .int 0, .int 0, .int 0, .int 0, .int 0, .int 0, .ref m52, .int 0, .ref m54, .int 0, .ref m56, .ref m57, .ref m58])), (m39, .inl (cy 0, 6, .inl (fun _ => (-1)))), (m40, .inl (cy 0, 6, .inl (fun _ => (-1))))] s.heap.size = A at hD ⊢
  have hA : ∀ q : Nat, s.heap.size ≤ q → A q := fun q h => by rw [← hAe]; exact Or.inr h
  have hS : va_S A s.heap s.heap [] := va_S.rf
  have hl := lv_entry ([.ref h0, .int p0, .int p1]) (n := 4) (Nat.le_of_ble_eq_true rfl)
  rw [lg_entry_eq]
  generalize (lg_sl ([.ref h0, .int p0, .int p1]) ++ List.replicate (4 - (lg_sl ([.ref h0, .int p0, .int p1])).length) Slot.unset).toArray = ls at hl ⊢
  have hl : lv_has ls 4 [(0, .ref h0), (1, .int p0), (2, .int p1)] := hl
  refine lv_iload_n hx hb dX12_taken_0 rfl (lv_at hl 1 rfl) ?_
  change W _ _ _ _ _ _ _ _ _ _ _ _ _ _ _ (F0 m 1 ls [.int p0])
  have hPc := hP.sub (ws' := []) [] rfl
  have hDc := hD.sub (ws' := []) [] (by decide) rfl
  refine vz_callSi (va_runS (As := [.int p0]) (rest := []) ⟨hx, hb, hml, hown, hts⟩ (c_M_isShelf l dC dI cy p0 s.heap.size) (va_cwS 1 hts gX12_taken_X12_isShelf rfl rfl rfl (by decide +kernel) ⟨Nat.le_of_ble_eq_true rfl, Nat.le_of_ble_eq_true rfl⟩) (wp_S hK hN hPc hDc) rfl rfl hl.1 rfl (lv_room (Nat.le_of_ble_eq_true rfl)) dX12_taken_1 ⟨Nat.le_of_ble_eq_true rfl, Nat.le_of_ble_eq_true rfl⟩) (fun r_1 hw_1 => ?_)
  rcases hw_1 with ⟨c_1, hw_1⟩ | ⟨c_1, hw_1⟩ <;> subst hw_1
  · have ic_1 : 0 ≤ p0.toInt ∧ p0.toInt ≤ 5 := c_1
    refine lv_if_eq (tgt := 17) hx hb dX12_taken_4 (by decide) (fun c_2 => absurd c_2 (by decide)) (fun _ => ?_)
    refine lv_iload_n hx hb dX12_taken_7 rfl (lv_at hl 2 rfl) ?_
    refine lv_iconst (v := 0) hx hb dX12_taken_8 (by decide) ?_
    refine lv_bipush (v := 6) hx hb dX12_taken_9 (by decide) ?_
    have hPc := hP.sub (ws' := []) [] rfl
    have hDc := hD.sub (ws' := []) [] (by decide) rfl
    refine vz_callSi (va_runS (As := [.int p1, .int 0, .int 6]) (rest := []) ⟨hx, hb, hml, hown, hts⟩ (c_M_in l dC dI cy p1 0 6 s.heap.size) (va_cwS 3 hts gX12_taken_X12_in rfl rfl rfl (by decide +kernel) ⟨Nat.le_of_ble_eq_true rfl, Nat.le_of_ble_eq_true rfl⟩) (wp_S hK hN hPc hDc) rfl rfl hl.1 rfl (lv_room (Nat.le_of_ble_eq_true rfl)) dX12_taken_11 ⟨Nat.le_of_ble_eq_true rfl, Nat.le_of_ble_eq_true rfl⟩) (fun r_3 hw_3 => ?_)
    rcases hw_3 with ⟨c_3, hw_3⟩ | ⟨c_3, hw_3⟩ <;> subst hw_3
    · have ic_3 : (0 : Int) ≤ p1.toInt ∧ p1.toInt ≤ (6 : Int) := c_3
      refine lv_if_ne (tgt := 19) hx hb dX12_taken_14 (by decide) (fun _ => ?_) (fun c_4 => absurd c_4 (by decide))
      refine lv_aload_n hx hb dX12_taken_19 rfl (lv_at hl 0 rfl) ?_
      refine va_get (D := (dC, dI)) (ci := 12) (v := .ref m40) (C := RX12) (T := TX12) (N := 59) hx hb hts (fun _ h9 => List.mem_cons_of_mem _ (List.mem_append_right _ h9)) hown hK hP 0 rfl rfl 40 (by decide) (hts (.fieldLink RX12 105 "SeatsRoundModel" "shelfSort" "[I") (List.mem_of_getElem? (i := 1) rfl)) (fun _ h9 => h9) rfl dX12_taken_20 ?_
      refine lv_iload_n hx hb dX12_taken_23 rfl (lv_at hl 1 rfl) ?_
      change W _ _ _ _ _ _ _ _ _ _ _ _ _ _ _ (F0 m 24 ls [.int p0, .ref m40])
      refine va_iald hx hb hK hP 2 0 rfl rfl (vp_in_iff.mpr ⟨by omega, by omega⟩) dX12_taken_24 ?_
      refine lv_topi (fun f_5 ef_5 => ?_)
      obtain rfl : f_5 = (-1) := ef_5
      refine lv_if_ge (tgt := 40) hx hb dX12_taken_25 (by decide) (fun c_6 => absurd c_6 (by decide)) (fun _ => ?_)
      refine lv_aload_n hx hb dX12_taken_28 rfl (lv_at hl 0 rfl) ?_
      refine va_get (D := (dC, dI)) (ci := 12) (v := .ref m39) (C := RX12) (T := TX12) (N := 59) hx hb hts (fun _ h9 => List.mem_cons_of_mem _ (List.mem_append_right _ h9)) hown hK hP 0 rfl rfl 39 (by decide) (hts (.fieldLink RX12 102 "SeatsRoundModel" "shelfIs" "[I") (List.mem_of_getElem? (i := 2) rfl)) (fun _ h9 => h9) rfl dX12_taken_29 ?_
      refine lv_iload_n hx hb dX12_taken_32 rfl (lv_at hl 1 rfl) ?_
      refine va_iald hx hb hK hP 1 0 rfl rfl (vp_in_iff.mpr ⟨by omega, by omega⟩) dX12_taken_33 ?_
      refine lv_topi (fun f_7 ef_7 => ?_)
      obtain rfl : f_7 = (-1) := ef_7
      refine lv_if_ge (tgt := 40) hx hb dX12_taken_34 (by decide) (fun c_8 => absurd c_8 (by decide)) (fun _ => ?_)
      refine lv_bipush (v := (-11)) hx hb dX12_taken_37 (by decide) ?_
      change W _ _ _ _ _ _ _ _ _ _ _ _ _ _ _ (F0 m 39 ls [.int (-11)])
      exact W.iret (v := (-11)) hx hb hr (fun t ht hW => ⟨⟨(-11), (), rfl, (by unfold sp_taken; split <;> (try split) <;> first | rfl | (exfalso; omega)), trivial⟩, hS.F ht⟩) hS.2.2 dX12_taken_39
    · have ic_3 : ¬ ((0 : Int) ≤ p1.toInt ∧ p1.toInt ≤ (6 : Int)) := c_3
      refine lv_if_ne (tgt := 19) hx hb dX12_taken_14 (by decide) (fun c_9 => absurd c_9 (by decide)) (fun _ => ?_)
      refine lv_iconst (v := (-1)) hx hb dX12_taken_17 (by decide) ?_
      exact W.iret (v := (-1)) hx hb hr (fun t ht hW => ⟨⟨(-1), (), rfl, (by unfold sp_taken; split <;> (try split) <;> first | rfl | (exfalso; omega)), trivial⟩, hS.F ht⟩) hS.2.2 dX12_taken_18
  · have ic_1 : ¬ (0 ≤ p0.toInt ∧ p0.toInt ≤ 5) := c_1
    refine lv_if_eq (tgt := 17) hx hb dX12_taken_4 (by decide) (fun _ => ?_) (fun c_10 => absurd c_10 (by decide))
    refine lv_iconst (v := (-1)) hx hb dX12_taken_17 (by decide) ?_
    exact W.iret (v := (-1)) hx hb hr (fun t ht hW => ⟨⟨(-1), (), rfl, (by unfold sp_taken; split <;> (try split) <;> first | rfl | (exfalso; omega)), trivial⟩, hS.F ht⟩) hS.2.2 dX12_taken_18
set_option maxHeartbeats 4000000 in
set_option maxRecDepth 100000 in
theorem c_M_names (l : Launch) (dC : Nat → ClassId) (dI : Nat → Nat → Nat) (cy : Nat → ClassId) (h0 : Nat) (m1 : Nat) (m2 : Nat) (m4 : Nat) (m5 : Nat) (m6 : Nat) (m7 : Nat) (m8 : Nat) (m10 : Nat) (m11 : Nat) (m12 : Nat) (m13 : Nat) (m14 : Nat) (m15 : Nat) (m16 : Nat) (m17 : Nat) (m18 : Nat) (m19 : Nat) (m20 : Nat) (m21 : Nat) (m23 : Nat) (m24 : Nat) (m25 : Nat) (m26 : Nat) (m27 : Nat) (m28 : Nat) (m31 : Nat) (m33 : Nat) (m35 : Nat) (m37 : Nat) (m39 : Nat) (m40 : Nat) (m41 : Nat) (m42 : Nat) (m43 : Nat) (m52 : Nat) (m54 : Nat) (m56 : Nat) (m57 : Nat) (m58 : Nat) (p0 : Int32) (p1 : Int32) (p2 : Int32) (sz : Nat)  : Met l yX12_names wsX12_names ({ frames := 3, cells := 0, slots := 0, locals := 65 }) (va_Pc [.ref h0, .int p0, .int p1, .int p2] (wPre (dC, dI) cy [(h0, .inr (12, [.int 0, .ref m1, .ref m2, .int 0, .ref m4, .ref m5, .ref m6, .ref m7, .ref m8, .int 0, .ref m10, .ref m11, .ref m12, .ref m13, .ref m14, .ref m15, .ref m16, .ref m17, .ref m18, .ref m19, .ref m20, .ref m21, .int 0, .ref m23, .ref m24, .ref m25, .ref m26, .ref m27, .ref m28, .int 0, .int 0, .ref m31, .int 0, .ref m33, .int 0, .ref m35, .int (-1), .ref m37, .int 0, .ref m39, .ref m40, .ref m41, .ref m42, .ref m43, .int 0, .int 0, .int 0, .int 0, .int 0, .int 0, .int 0, .int 0, .ref m52, .int 0, .ref m54, .int 0, .ref m56, .ref m57, .ref m58])), (m39, .inl (cy 0, 6, .inl (fun _ => (-1)))), (m40, .inl (cy 0, 6, .inl (fun _ => (-1))))] sz)) (va_Qi (fun (r : Int32) (u : Unit) => r = sp_names p0 p2) (fun (u : Unit) t => True) (va_A [(h0, .inr (12, [.int 0, .ref m1, .ref m2, .int 0, .ref m4, .ref m5, .ref m6, .ref m7, .ref m8, .int 0, .ref m10, .ref m11, .ref m12, .ref m13, .ref m14, .ref m15, .ref m16, .ref m17, .ref m18, .ref m19, .ref m20, .ref m21, .int 0, .ref m23, .ref m24, .ref m25, .ref m26, .ref m27, .ref m28, .int 0, .int 0, .ref m31, .int 0, .ref m33, .int 0, .ref m35, .int (-1), .ref m37, .int 0, .ref m39, .ref m40, .ref m41, .ref m42, .ref m43, .int 0, .int 0, .int 0, .int 0, .int 0, .int 0, .int 0, .int 0, .ref m52, .int 0, .ref m54, .int 0, .ref m56, .ref m57, .ref m58])), (m39, .inl (cy 0, 6, .inl (fun _ => (-1)))), (m40, .inl (cy 0, 6, .inl (fun _ => (-1))))] sz)) 0 0 (va_A [(h0, .inr (12, [.int 0, .ref m1, .ref m2, .int 0, .ref m4, .ref m5, .ref m6, .ref m7, .ref m8, .int 0, .ref m10, .ref m11, .ref m12, .ref m13, .ref m14, .ref m15, .ref m16, .ref m17, .ref m18, .ref m19, .ref m20, .ref m21, .int 0, .ref m23, .ref m24, .ref m25, .ref m26, .ref m27, .ref m28, .int 0, .int 0, .ref m31, .int 0, .ref m33, .int 0, .ref m35, .int (-1), .ref m37, .int 0, .ref m39, .ref m40, .ref m41, .ref m42, .ref m43, .int 0, .int 0, .int 0, .int 0, .int 0, .int 0, .int 0, .int 0, .ref m52, .int 0, .ref m54, .int 0, .ref m56, .ref m57, .ref m58])), (m39, .inl (cy 0, 6, .inl (fun _ => (-1)))), (m40, .inl (cy 0, 6, .inl (fun _ => (-1))))] sz) := by
  refine Met.ofW (cc := cX12_names) (maxL := 11) (ret := (some .int)) (by decide) rfl ?_
  intro p e s m args below meth c s₁ B hml hv
  obtain ⟨rfl, hsz, hP, hK, hD0, hN⟩ := hv
  have hx := B.exec
  have hb := B.bytes
  have hr := B.returns
  have hts := atoms_spec (ws := wsX12_names) B.pre
  have hown : s.vm.findClass RX12 = some m.cls := findClass_of_methodNamed B.named
  have hlocks := B.notSynchronized
  subst hsz
  have hD := hD0.self (sz := s.heap.size)
  generalize hAe : va_A [(h0, .inr (12, [.int 0, .ref m1, .ref m2, .int 0, .ref m4, .ref m5, .ref m6, .ref m7, .ref m8, .int 0, .ref m10, .ref m11, .ref m12, .ref m13, .ref m14, .ref m15, .ref m16, .ref m17, .ref m18, .ref m19, .ref m20, .ref m21, .int 0, .ref m23, .ref m24, .ref m25, .ref m26, .ref m27, .ref m28, .int 0, .int 0, .ref m31, .int 0, .ref m33, .int 0, .ref m35, .int (-1), .ref m37, .int 0, .ref m39, .ref m40, .ref m41, .ref m42, .ref m43, .int 0, .int 0, .int 0, .int 0, .int 0, .int 0, .int 0, .int 0, .ref m52, .int 0, .ref m54, .int 0, .ref m56, .ref m57, .ref m58])), (m39, .inl (cy 0, 6, .inl (fun _ => (-1)))), (m40, .inl (cy 0, 6, .inl (fun _ => (-1))))] s.heap.size = A at hD ⊢
  have hA : ∀ q : Nat, s.heap.size ≤ q → A q := fun q h => by rw [← hAe]; exact Or.inr h
  have hS : va_S A s.heap s.heap [] := va_S.rf
  have hl := lv_entry ([.ref h0, .int p0, .int p1, .int p2]) (n := 11) (Nat.le_of_ble_eq_true rfl)
  rw [lg_entry_eq]
  generalize (lg_sl ([.ref h0, .int p0, .int p1, .int p2]) ++ List.replicate (11 - (lg_sl ([.ref h0, .int p0, .int p1, .int p2])).length) Slot.unset).toArray = ls at hl ⊢
  have hl : lv_has ls 11 [(0, .ref h0), (1, .int p0), (2, .int p1), (3, .int p2)] := hl
  refine lv_iload_n hx hb dX12_names_0 rfl (lv_at hl 1 rfl) ?_
  have hPc := hP.sub (ws' := []) [] rfl
  have hDc := hD.sub (ws' := []) [] (by decide) rfl
  refine vz_callSi (va_runS (As := [.int p0]) (rest := []) ⟨hx, hb, hml, hown, hts⟩ (c_M_isShelf l dC dI cy p0 s.heap.size) (va_cwS 1 hts gX12_names_X12_isShelf rfl rfl rfl (by decide +kernel) ⟨Nat.le_of_ble_eq_true rfl, Nat.le_of_ble_eq_true rfl⟩) (wp_S hK hN hPc hDc) rfl rfl hl.1 rfl (lv_room (Nat.le_of_ble_eq_true rfl)) dX12_names_1 ⟨Nat.le_of_ble_eq_true rfl, Nat.le_of_ble_eq_true rfl⟩) (fun r_1 hw_1 => ?_)
  rcases hw_1 with ⟨c_1, hw_1⟩ | ⟨c_1, hw_1⟩ <;> subst hw_1
  · have ic_1 : 0 ≤ p0.toInt ∧ p0.toInt ≤ 5 := c_1
    refine lv_if_eq (tgt := 17) hx hb dX12_names_4 (by decide) (fun c_2 => absurd c_2 (by decide)) (fun _ => ?_)
    refine lv_iload_n hx hb dX12_names_7 rfl (lv_at hl 3 rfl) ?_
    refine lv_iconst (v := 1) hx hb dX12_names_8 (by decide) ?_
    refine lv_bipush (v := 20) hx hb dX12_names_9 (by decide) ?_
    have hPc := hP.sub (ws' := []) [] rfl
    have hDc := hD.sub (ws' := []) [] (by decide) rfl
    refine vz_callSi (va_runS (As := [.int p2, .int 1, .int 20]) (rest := []) ⟨hx, hb, hml, hown, hts⟩ (c_M_in l dC dI cy p2 1 20 s.heap.size) (va_cwS 3 hts gX12_names_X12_in rfl rfl rfl (by decide +kernel) ⟨Nat.le_of_ble_eq_true rfl, Nat.le_of_ble_eq_true rfl⟩) (wp_S hK hN hPc hDc) rfl rfl hl.1 rfl (lv_room (Nat.le_of_ble_eq_true rfl)) dX12_names_11 ⟨Nat.le_of_ble_eq_true rfl, Nat.le_of_ble_eq_true rfl⟩) (fun r_3 hw_3 => ?_)
    rcases hw_3 with ⟨c_3, hw_3⟩ | ⟨c_3, hw_3⟩ <;> subst hw_3
    · have ic_3 : (1 : Int) ≤ p2.toInt ∧ p2.toInt ≤ (20 : Int) := c_3
      refine lv_if_ne (tgt := 19) hx hb dX12_names_14 (by decide) (fun _ => ?_) (fun c_4 => absurd c_4 (by decide))
      refine lv_aload_n hx hb dX12_names_19 rfl (lv_at hl 0 rfl) ?_
      refine va_get (D := (dC, dI)) (ci := 12) (v := .ref m39) (C := RX12) (T := TX12) (N := 59) hx hb hts (fun _ h9 => List.mem_cons_of_mem _ (List.mem_append_right _ h9)) hown hK hP 0 rfl rfl 39 (by decide) (hts (.fieldLink RX12 102 "SeatsRoundModel" "shelfIs" "[I") (List.mem_of_getElem? (i := 1) rfl)) (fun _ h9 => h9) rfl dX12_names_20 ?_
      change W _ _ _ _ _ _ _ _ _ _ _ _ _ _ _ (F0 m 23 ls [.ref m39])
      refine lv_iload_n hx hb dX12_names_23 rfl (lv_at hl 1 rfl) ?_
      refine va_iald hx hb hK hP 1 0 rfl rfl (vp_in_iff.mpr ⟨by omega, by omega⟩) dX12_names_24 ?_
      refine lv_topi (fun f_5 ef_5 => ?_)
      obtain rfl : f_5 = (-1) := ef_5
      refine lv_if_ge (tgt := 37) hx hb dX12_names_25 (by decide) (fun c_6 => absurd c_6 (by decide)) (fun _ => ?_)
      refine lv_aload_n hx hb dX12_names_28 rfl (lv_at hl 0 rfl) ?_
      refine va_get (D := (dC, dI)) (ci := 12) (v := .ref m40) (C := RX12) (T := TX12) (N := 59) hx hb hts (fun _ h9 => List.mem_cons_of_mem _ (List.mem_append_right _ h9)) hown hK hP 0 rfl rfl 40 (by decide) (hts (.fieldLink RX12 105 "SeatsRoundModel" "shelfSort" "[I") (List.mem_of_getElem? (i := 2) rfl)) (fun _ h9 => h9) rfl dX12_names_29 ?_
      refine lv_iload_n hx hb dX12_names_32 rfl (lv_at hl 1 rfl) ?_
      refine va_iald hx hb hK hP 2 0 rfl rfl (vp_in_iff.mpr ⟨by omega, by omega⟩) dX12_names_33 ?_
      refine lv_topi (fun f_7 ef_7 => ?_)
      obtain rfl : f_7 = (-1) := ef_7
      refine lv_if_le (tgt := 40) hx hb dX12_names_34 (by decide) (fun _ => ?_) (fun c_8 => absurd c_8 (by decide))
      change W _ _ _ _ _ _ _ _ _ _ _ _ _ _ _ (F0 m 40 ls [])
      refine lv_aload_n hx hb dX12_names_40 rfl (lv_at hl 0 rfl) ?_
      refine va_get (D := (dC, dI)) (ci := 12) (v := .ref m40) (C := RX12) (T := TX12) (N := 59) hx hb hts (fun _ h9 => List.mem_cons_of_mem _ (List.mem_append_right _ h9)) hown hK hP 0 rfl rfl 40 (by decide) (hts (.fieldLink RX12 105 "SeatsRoundModel" "shelfSort" "[I") (List.mem_of_getElem? (i := 2) rfl)) (fun _ h9 => h9) rfl dX12_names_41 ?_
      refine lv_iload_n hx hb dX12_names_44 rfl (lv_at hl 1 rfl) ?_
      refine va_iald hx hb hK hP 2 0 rfl rfl (vp_in_iff.mpr ⟨by omega, by omega⟩) dX12_names_45 ?_
      refine lv_topi (fun f_9 ef_9 => ?_)
      obtain rfl : f_9 = (-1) := ef_9
      refine lv_if_ne (tgt := 58) hx hb dX12_names_46 (by decide) (fun _ => ?_) (fun c_10 => absurd c_10 (by decide))
      refine lv_iconst (v := 0) hx hb dX12_names_58 (by decide) ?_
      refine lv_istore (lv' := [(4, .int 0), (0, .ref h0), (1, .int p0), (2, .int p1), (3, .int p2)]) hx hb dX12_names_59 hl (by decide) rfl (fun ls hl => ?_)
      refine lv_iload_n hx hb dX12_names_61 rfl (lv_at hl 3 rfl) ?_
      change W _ _ _ _ _ _ _ _ _ _ _ _ _ _ _ (F0 m 62 ls [.int p1])
      refine lv_if_ge (tgt := 70) hx hb dX12_names_62 (by decide) (fun c_11 => ?_) (fun c_11 => ?_)
      · have ic_11 : (0 : Int) ≤ p1.toInt := Int32.le_iff_toInt_le.mp c_11
        refine lv_iload_n hx hb dX12_names_70 rfl (lv_at hl 3 rfl) ?_
        refine lv_istore (lv' := [(5, .int p1), (4, .int 0), (0, .ref h0), (1, .int p0), (2, .int p1), (3, .int p2)]) hx hb dX12_names_71 hl (by decide) rfl (fun ls hl => ?_)
        refine lv_iconst (v := 0) hx hb dX12_names_73 (by decide) ?_
        refine lv_istore (lv' := [(6, .int 0), (5, .int p1), (4, .int 0), (0, .ref h0), (1, .int p0), (2, .int p1), (3, .int p2)]) hx hb dX12_names_74 hl (by decide) rfl (fun ls hl => ?_)
        refine lv_iconst (v := 1) hx hb dX12_names_76 (by decide) ?_
        refine lv_istore (lv' := [(7, .int 1), (6, .int 0), (5, .int p1), (4, .int 0), (0, .ref h0), (1, .int p0), (2, .int p1), (3, .int p2)]) hx hb dX12_names_77 hl (by decide) rfl (fun ls hl => ?_)
        refine lv_iconst (v := 0) hx hb dX12_names_79 (by decide) ?_
        refine lv_istore (lv' := [(8, .int 0), (7, .int 1), (6, .int 0), (5, .int p1), (4, .int 0), (0, .ref h0), (1, .int p0), (2, .int p1), (3, .int p2)]) hx hb dX12_names_80 hl (by decide) rfl (fun ls hl => ?_)
        change W _ _ _ _ _ _ _ _ _ _ _ _ _ _ _ (F0 m 82 ls [])
        refine lv_iload hx hb dX12_names_82 (lv_at hl 0 rfl) ?_
        refine lv_iload_n hx hb dX12_names_84 rfl (lv_at hl 8 rfl) ?_
        refine lv_icmp_ge (tgt := 287) hx hb dX12_names_85 (by decide) (fun c_12 => ?_) (fun c_12 => ?_)
        · have ic_12 : p2.toInt ≤ (0 : Int) := Int32.le_iff_toInt_le.mp c_12
          exact absurd True.intro (by omega)
        · have ic_12 : ¬ p2.toInt ≤ (0 : Int) := fun h9 => c_12 (Int32.le_iff_toInt_le.mpr h9)
          refine lv_iload hx hb dX12_names_88 (lv_at hl 1 rfl) ?_
          refine lv_if_eq (tgt := 287) hx hb dX12_names_90 (by decide) (fun c_13 => absurd c_13 (by decide)) (fun _ => ?_)
          refine lv_iload hx hb dX12_names_93 (lv_at hl 3 rfl) ?_
          refine lv_iload hx hb dX12_names_95 (lv_at hl 4 rfl) ?_
          refine lv_icmp_ge (tgt := 116) hx hb dX12_names_97 (by decide) (fun c_14 => ?_) (fun c_14 => ?_)
          · have ic_14 : (0 : Int) ≤ p1.toInt := Int32.le_iff_toInt_le.mp c_14
            refine lv_iconst (v := 0) hx hb dX12_names_116 (by decide) ?_
            refine lv_istore (lv' := [(9, .int 0), (8, .int 0), (7, .int 1), (6, .int 0), (5, .int p1), (4, .int 0), (0, .ref h0), (1, .int p0), (2, .int p1), (3, .int p2)]) hx hb dX12_names_117 hl (by decide) rfl (fun ls hl => ?_)
            change W _ _ _ _ _ _ _ _ _ _ _ _ _ _ _ (F0 m 119 ls [])
            refine lv_iload hx hb dX12_names_119 (lv_at hl 0 rfl) ?_
            refine lv_iconst (v := 1) hx hb dX12_names_121 (by decide) ?_
            refine lv_bipush (v := 6) hx hb dX12_names_122 (by decide) ?_
            have hPc := hP.sub (ws' := []) [] rfl
            have hDc := hD.sub (ws' := []) [] (by decide) rfl
            refine vz_callSi (va_runS (As := [.int 0, .int 1, .int 6]) (rest := []) ⟨hx, hb, hml, hown, hts⟩ (c_M_in l dC dI cy 0 1 6 s.heap.size) (va_cwS 3 hts gX12_names_X12_in rfl rfl rfl (by decide +kernel) ⟨Nat.le_of_ble_eq_true rfl, Nat.le_of_ble_eq_true rfl⟩) (wp_S hK hN hPc hDc) rfl rfl hl.1 rfl (lv_room (Nat.le_of_ble_eq_true rfl)) dX12_names_124 ⟨Nat.le_of_ble_eq_true rfl, Nat.le_of_ble_eq_true rfl⟩) (fun r_15 hw_15 => ?_)
            rcases hw_15 with ⟨c_15, hw_15⟩ | ⟨c_15, hw_15⟩ <;> subst hw_15
            · have ic_15 : (1 : Int) ≤ (0 : Int) ∧ (0 : Int) ≤ (6 : Int) := c_15
              exact absurd True.intro (by omega)
            · have ic_15 : ¬ ((1 : Int) ≤ (0 : Int) ∧ (0 : Int) ≤ (6 : Int)) := c_15
              refine lv_if_eq (tgt := 144) hx hb dX12_names_127 (by decide) (fun _ => ?_) (fun c_16 => absurd c_16 (by decide))
              refine lv_iconst (v := 0) hx hb dX12_names_144 (by decide) ?_
              refine lv_istore (lv' := [(7, .int 0), (9, .int 0), (8, .int 0), (6, .int 0), (5, .int p1), (4, .int 0), (0, .ref h0), (1, .int p0), (2, .int p1), (3, .int p2)]) hx hb dX12_names_145 hl (by decide) rfl (fun ls hl => ?_)
              refine lv_iconst (v := 0) hx hb dX12_names_147 (by decide) ?_
              refine lv_istore (lv' := [(10, .int 0), (7, .int 0), (9, .int 0), (8, .int 0), (6, .int 0), (5, .int p1), (4, .int 0), (0, .ref h0), (1, .int p0), (2, .int p1), (3, .int p2)]) hx hb dX12_names_148 hl (by decide) rfl (fun ls hl => ?_)
              change W _ _ _ _ _ _ _ _ _ _ _ _ _ _ _ (F0 m 150 ls [])
              refine lv_iload hx hb dX12_names_150 (lv_at hl 0 rfl) ?_
              refine lv_iload hx hb dX12_names_152 (lv_at hl 2 rfl) ?_
              refine lv_icmp_ge (tgt := 197) hx hb dX12_names_154 (by decide) (fun _ => ?_) (fun c_17 => absurd c_17 (by decide))
              refine lv_iload hx hb dX12_names_197 (lv_at hl 1 rfl) ?_
              refine lv_if_eq (tgt := 215) hx hb dX12_names_199 (by decide) (fun _ => ?_) (fun c_18 => absurd c_18 (by decide))
              refine lv_iconst (v := 0) hx hb dX12_names_215 (by decide) ?_
              refine lv_istore (lv' := [(10, .int 0), (7, .int 0), (9, .int 0), (8, .int 0), (6, .int 0), (5, .int p1), (4, .int 0), (0, .ref h0), (1, .int p0), (2, .int p1), (3, .int p2)]) hx hb dX12_names_216 hl (by decide) rfl (fun ls hl => ?_)
              refine lv_iload hx hb dX12_names_218 (lv_at hl 1 rfl) ?_
              change W _ _ _ _ _ _ _ _ _ _ _ _ _ _ _ (F0 m 220 ls [.int 0])
              refine lv_if_eq (tgt := 241) hx hb dX12_names_220 (by decide) (fun _ => ?_) (fun c_19 => absurd c_19 (by decide))
              refine lv_iconst (v := 0) hx hb dX12_names_241 (by decide) ?_
              refine lv_istore (lv' := [(7, .int 0), (10, .int 0), (9, .int 0), (8, .int 0), (6, .int 0), (5, .int p1), (4, .int 0), (0, .ref h0), (1, .int p0), (2, .int p1), (3, .int p2)]) hx hb dX12_names_242 hl (by decide) rfl (fun ls hl => ?_)
              refine lv_iload hx hb dX12_names_244 (lv_at hl 0 rfl) ?_
              refine lv_if_eq (tgt := 263) hx hb dX12_names_246 (by decide) (fun _ => ?_) (fun c_20 => absurd c_20 (by decide))
              refine lv_iload hx hb dX12_names_263 (lv_at hl 5 rfl) ?_
              refine lv_iload hx hb dX12_names_265 (lv_at hl 0 rfl) ?_
              refine lv_if_eq (tgt := 277) hx hb dX12_names_267 (by decide) (fun _ => ?_) (fun c_21 => absurd c_21 (by decide))
              change W _ _ _ _ _ _ _ _ _ _ _ _ _ _ _ (F0 m 277 ls [.int p1])
              refine lv_iconst (v := 0) hx hb dX12_names_277 (by decide) ?_
              refine lv_iadd hx hb dX12_names_278 ?_
              refine lv_topi (fun f_22 ef_22 => ?_)
              refine lv_istore (lv' := [(5, .int f_22), (7, .int 0), (10, .int 0), (9, .int 0), (8, .int 0), (6, .int 0), (4, .int 0), (0, .ref h0), (1, .int p0), (2, .int p1), (3, .int p2)]) hx hb dX12_names_279 hl (by decide) rfl (fun ls hl => ?_)
              refine lv_iinc (v := 1) (lv' := [(8, .int 1), (5, .int f_22), (7, .int 0), (10, .int 0), (9, .int 0), (6, .int 0), (4, .int 0), (0, .ref h0), (1, .int p0), (2, .int p1), (3, .int p2)]) hx hb dX12_names_281 hl (k := 4) rfl (by decide) (by decide) rfl (fun ls hl => ?_)
              refine lv_goto (tgt := 82) hx hb dX12_names_284 (by decide) ?_
              refine lv_iload hx hb dX12_names_82 (lv_at hl 0 rfl) ?_
              refine lv_iload_n hx hb dX12_names_84 rfl (lv_at hl 10 rfl) ?_
              refine lv_icmp_ge (tgt := 287) hx hb dX12_names_85 (by decide) (fun c_23 => ?_) (fun c_23 => ?_)
              · have ic_23 : p2.toInt ≤ (1 : Int) := Int32.le_iff_toInt_le.mp c_23
                refine lv_iload hx hb dX12_names_287 (lv_at hl 5 rfl) ?_
                change W _ _ _ _ _ _ _ _ _ _ _ _ _ _ _ (F0 m 289 ls [.int 0])
                exact W.iret (v := 0) hx hb hr (fun t ht hW => ⟨⟨0, (), rfl, (by unfold sp_names; split <;> (try split) <;> first | rfl | (exfalso; omega)), trivial⟩, hS.F ht⟩) hS.2.2 dX12_names_289
              · have ic_23 : ¬ p2.toInt ≤ (1 : Int) := fun h9 => c_23 (Int32.le_iff_toInt_le.mpr h9)
                refine lv_iload hx hb dX12_names_88 (lv_at hl 2 rfl) ?_
                refine lv_if_eq (tgt := 287) hx hb dX12_names_90 (by decide) (fun _ => ?_) (fun c_24 => absurd c_24 (by decide))
                refine lv_iload hx hb dX12_names_287 (lv_at hl 5 rfl) ?_
                exact W.iret (v := 0) hx hb hr (fun t ht hW => ⟨⟨0, (), rfl, (by unfold sp_names; split <;> (try split) <;> first | rfl | (exfalso; omega)), trivial⟩, hS.F ht⟩) hS.2.2 dX12_names_289
          · have ic_14 : ¬ (0 : Int) ≤ p1.toInt := fun h9 => c_14 (Int32.le_iff_toInt_le.mpr h9)
            exact absurd True.intro (by omega)
      · have ic_11 : ¬ (0 : Int) ≤ p1.toInt := fun h9 => c_11 (Int32.le_iff_toInt_le.mpr h9)
        refine lv_iload hx hb dX12_names_65 (lv_at hl 0 rfl) ?_
        refine lv_goto (tgt := 71) hx hb dX12_names_67 (by decide) ?_
        refine lv_istore (lv' := [(5, .int 0), (4, .int 0), (0, .ref h0), (1, .int p0), (2, .int p1), (3, .int p2)]) hx hb dX12_names_71 hl (by decide) rfl (fun ls hl => ?_)
        refine lv_iconst (v := 0) hx hb dX12_names_73 (by decide) ?_
        refine lv_istore (lv' := [(6, .int 0), (5, .int 0), (4, .int 0), (0, .ref h0), (1, .int p0), (2, .int p1), (3, .int p2)]) hx hb dX12_names_74 hl (by decide) rfl (fun ls hl => ?_)
        change W _ _ _ _ _ _ _ _ _ _ _ _ _ _ _ (F0 m 76 ls [])
        refine lv_iconst (v := 1) hx hb dX12_names_76 (by decide) ?_
        refine lv_istore (lv' := [(7, .int 1), (6, .int 0), (5, .int 0), (4, .int 0), (0, .ref h0), (1, .int p0), (2, .int p1), (3, .int p2)]) hx hb dX12_names_77 hl (by decide) rfl (fun ls hl => ?_)
        refine lv_iconst (v := 0) hx hb dX12_names_79 (by decide) ?_
        refine lv_istore (lv' := [(8, .int 0), (7, .int 1), (6, .int 0), (5, .int 0), (4, .int 0), (0, .ref h0), (1, .int p0), (2, .int p1), (3, .int p2)]) hx hb dX12_names_80 hl (by decide) rfl (fun ls hl => ?_)
        refine lv_iload hx hb dX12_names_82 (lv_at hl 0 rfl) ?_
        refine lv_iload_n hx hb dX12_names_84 rfl (lv_at hl 8 rfl) ?_
        refine lv_icmp_ge (tgt := 287) hx hb dX12_names_85 (by decide) (fun c_25 => ?_) (fun c_25 => ?_)
        · have ic_25 : p2.toInt ≤ (0 : Int) := Int32.le_iff_toInt_le.mp c_25
          exact absurd True.intro (by omega)
        · have ic_25 : ¬ p2.toInt ≤ (0 : Int) := fun h9 => c_25 (Int32.le_iff_toInt_le.mpr h9)
          refine lv_iload hx hb dX12_names_88 (lv_at hl 1 rfl) ?_
          refine lv_if_eq (tgt := 287) hx hb dX12_names_90 (by decide) (fun c_26 => absurd c_26 (by decide)) (fun _ => ?_)
          change W _ _ _ _ _ _ _ _ _ _ _ _ _ _ _ (F0 m 93 ls [])
          refine lv_iload hx hb dX12_names_93 (lv_at hl 3 rfl) ?_
          refine lv_iload hx hb dX12_names_95 (lv_at hl 4 rfl) ?_
          refine lv_icmp_ge (tgt := 116) hx hb dX12_names_97 (by decide) (fun _ => ?_) (fun c_27 => absurd c_27 (by decide))
          refine lv_iconst (v := 0) hx hb dX12_names_116 (by decide) ?_
          refine lv_istore (lv' := [(9, .int 0), (8, .int 0), (7, .int 1), (6, .int 0), (5, .int 0), (4, .int 0), (0, .ref h0), (1, .int p0), (2, .int p1), (3, .int p2)]) hx hb dX12_names_117 hl (by decide) rfl (fun ls hl => ?_)
          refine lv_iload hx hb dX12_names_119 (lv_at hl 0 rfl) ?_
          refine lv_iconst (v := 1) hx hb dX12_names_121 (by decide) ?_
          refine lv_bipush (v := 6) hx hb dX12_names_122 (by decide) ?_
          change W _ _ _ _ _ _ _ _ _ _ _ _ _ _ _ (F0 m 124 ls [.int 6, .int 1, .int 0])
          have hPc := hP.sub (ws' := []) [] rfl
          have hDc := hD.sub (ws' := []) [] (by decide) rfl
          refine vz_callSi (va_runS (As := [.int 0, .int 1, .int 6]) (rest := []) ⟨hx, hb, hml, hown, hts⟩ (c_M_in l dC dI cy 0 1 6 s.heap.size) (va_cwS 3 hts gX12_names_X12_in rfl rfl rfl (by decide +kernel) ⟨Nat.le_of_ble_eq_true rfl, Nat.le_of_ble_eq_true rfl⟩) (wp_S hK hN hPc hDc) rfl rfl hl.1 rfl (lv_room (Nat.le_of_ble_eq_true rfl)) dX12_names_124 ⟨Nat.le_of_ble_eq_true rfl, Nat.le_of_ble_eq_true rfl⟩) (fun r_28 hw_28 => ?_)
          rcases hw_28 with ⟨c_28, hw_28⟩ | ⟨c_28, hw_28⟩ <;> subst hw_28
          · have ic_28 : (1 : Int) ≤ (0 : Int) ∧ (0 : Int) ≤ (6 : Int) := c_28
            exact absurd True.intro (by omega)
          · have ic_28 : ¬ ((1 : Int) ≤ (0 : Int) ∧ (0 : Int) ≤ (6 : Int)) := c_28
            refine lv_if_eq (tgt := 144) hx hb dX12_names_127 (by decide) (fun _ => ?_) (fun c_29 => absurd c_29 (by decide))
            refine lv_iconst (v := 0) hx hb dX12_names_144 (by decide) ?_
            refine lv_istore (lv' := [(7, .int 0), (9, .int 0), (8, .int 0), (6, .int 0), (5, .int 0), (4, .int 0), (0, .ref h0), (1, .int p0), (2, .int p1), (3, .int p2)]) hx hb dX12_names_145 hl (by decide) rfl (fun ls hl => ?_)
            refine lv_iconst (v := 0) hx hb dX12_names_147 (by decide) ?_
            refine lv_istore (lv' := [(10, .int 0), (7, .int 0), (9, .int 0), (8, .int 0), (6, .int 0), (5, .int 0), (4, .int 0), (0, .ref h0), (1, .int p0), (2, .int p1), (3, .int p2)]) hx hb dX12_names_148 hl (by decide) rfl (fun ls hl => ?_)
            refine lv_iload hx hb dX12_names_150 (lv_at hl 0 rfl) ?_
            refine lv_iload hx hb dX12_names_152 (lv_at hl 2 rfl) ?_
            refine lv_icmp_ge (tgt := 197) hx hb dX12_names_154 (by decide) (fun _ => ?_) (fun c_30 => absurd c_30 (by decide))
            change W _ _ _ _ _ _ _ _ _ _ _ _ _ _ _ (F0 m 197 ls [])
            refine lv_iload hx hb dX12_names_197 (lv_at hl 1 rfl) ?_
            refine lv_if_eq (tgt := 215) hx hb dX12_names_199 (by decide) (fun _ => ?_) (fun c_31 => absurd c_31 (by decide))
            refine lv_iconst (v := 0) hx hb dX12_names_215 (by decide) ?_
            refine lv_istore (lv' := [(10, .int 0), (7, .int 0), (9, .int 0), (8, .int 0), (6, .int 0), (5, .int 0), (4, .int 0), (0, .ref h0), (1, .int p0), (2, .int p1), (3, .int p2)]) hx hb dX12_names_216 hl (by decide) rfl (fun ls hl => ?_)
            refine lv_iload hx hb dX12_names_218 (lv_at hl 1 rfl) ?_
            refine lv_if_eq (tgt := 241) hx hb dX12_names_220 (by decide) (fun _ => ?_) (fun c_32 => absurd c_32 (by decide))
            refine lv_iconst (v := 0) hx hb dX12_names_241 (by decide) ?_
            refine lv_istore (lv' := [(7, .int 0), (10, .int 0), (9, .int 0), (8, .int 0), (6, .int 0), (5, .int 0), (4, .int 0), (0, .ref h0), (1, .int p0), (2, .int p1), (3, .int p2)]) hx hb dX12_names_242 hl (by decide) rfl (fun ls hl => ?_)
            change W _ _ _ _ _ _ _ _ _ _ _ _ _ _ _ (F0 m 244 ls [])
            refine lv_iload hx hb dX12_names_244 (lv_at hl 0 rfl) ?_
            refine lv_if_eq (tgt := 263) hx hb dX12_names_246 (by decide) (fun _ => ?_) (fun c_33 => absurd c_33 (by decide))
            refine lv_iload hx hb dX12_names_263 (lv_at hl 5 rfl) ?_
            refine lv_iload hx hb dX12_names_265 (lv_at hl 0 rfl) ?_
            refine lv_if_eq (tgt := 277) hx hb dX12_names_267 (by decide) (fun _ => ?_) (fun c_34 => absurd c_34 (by decide))
            refine lv_iconst (v := 0) hx hb dX12_names_277 (by decide) ?_
            refine lv_iadd hx hb dX12_names_278 ?_
            refine lv_topi (fun f_35 ef_35 => ?_)
            obtain rfl : f_35 = 0 := ef_35.trans (by decide)
            refine lv_istore (lv' := [(5, .int 0), (7, .int 0), (10, .int 0), (9, .int 0), (8, .int 0), (6, .int 0), (4, .int 0), (0, .ref h0), (1, .int p0), (2, .int p1), (3, .int p2)]) hx hb dX12_names_279 hl (by decide) rfl (fun ls hl => ?_)
            change W _ _ _ _ _ _ _ _ _ _ _ _ _ _ _ (F0 m 281 ls [])
            refine lv_iinc (v := 1) (lv' := [(8, .int 1), (5, .int 0), (7, .int 0), (10, .int 0), (9, .int 0), (6, .int 0), (4, .int 0), (0, .ref h0), (1, .int p0), (2, .int p1), (3, .int p2)]) hx hb dX12_names_281 hl (k := 4) rfl (by decide) (by decide) rfl (fun ls hl => ?_)
            refine lv_goto (tgt := 82) hx hb dX12_names_284 (by decide) ?_
            refine lv_iload hx hb dX12_names_82 (lv_at hl 0 rfl) ?_
            refine lv_iload_n hx hb dX12_names_84 rfl (lv_at hl 10 rfl) ?_
            refine lv_icmp_ge (tgt := 287) hx hb dX12_names_85 (by decide) (fun c_36 => ?_) (fun c_36 => ?_)
            · have ic_36 : p2.toInt ≤ (1 : Int) := Int32.le_iff_toInt_le.mp c_36
              refine lv_iload hx hb dX12_names_287 (lv_at hl 5 rfl) ?_
              exact W.iret (v := 0) hx hb hr (fun t ht hW => ⟨⟨0, (), rfl, (by unfold sp_names; split <;> (try split) <;> first | rfl | (exfalso; omega)), trivial⟩, hS.F ht⟩) hS.2.2 dX12_names_289
            · have ic_36 : ¬ p2.toInt ≤ (1 : Int) := fun h9 => c_36 (Int32.le_iff_toInt_le.mpr h9)
              refine lv_iload hx hb dX12_names_88 (lv_at hl 2 rfl) ?_
              refine lv_if_eq (tgt := 287) hx hb dX12_names_90 (by decide) (fun _ => ?_) (fun c_37 => absurd c_37 (by decide))
              refine lv_iload hx hb dX12_names_287 (lv_at hl 5 rfl) ?_
              change W _ _ _ _ _ _ _ _ _ _ _ _ _ _ _ (F0 m 289 ls [.int 0])
              exact W.iret (v := 0) hx hb hr (fun t ht hW => ⟨⟨0, (), rfl, (by unfold sp_names; split <;> (try split) <;> first | rfl | (exfalso; omega)), trivial⟩, hS.F ht⟩) hS.2.2 dX12_names_289
    · have ic_3 : ¬ ((1 : Int) ≤ p2.toInt ∧ p2.toInt ≤ (20 : Int)) := c_3
      refine lv_if_ne (tgt := 19) hx hb dX12_names_14 (by decide) (fun c_38 => absurd c_38 (by decide)) (fun _ => ?_)
      refine lv_iconst (v := (-1)) hx hb dX12_names_17 (by decide) ?_
      exact W.iret (v := (-1)) hx hb hr (fun t ht hW => ⟨⟨(-1), (), rfl, (by unfold sp_names; split <;> (try split) <;> first | rfl | (exfalso; omega)), trivial⟩, hS.F ht⟩) hS.2.2 dX12_names_18
  · have ic_1 : ¬ (0 ≤ p0.toInt ∧ p0.toInt ≤ 5) := c_1
    refine lv_if_eq (tgt := 17) hx hb dX12_names_4 (by decide) (fun _ => ?_) (fun c_39 => absurd c_39 (by decide))
    refine lv_iconst (v := (-1)) hx hb dX12_names_17 (by decide) ?_
    exact W.iret (v := (-1)) hx hb hr (fun t ht hW => ⟨⟨(-1), (), rfl, (by unfold sp_names; split <;> (try split) <;> first | rfl | (exfalso; omega)), trivial⟩, hS.F ht⟩) hS.2.2 dX12_names_18
set_option maxHeartbeats 4000000 in
set_option maxRecDepth 100000 in
theorem c_M_count (l : Launch) (dC : Nat → ClassId) (dI : Nat → Nat → Nat) (cy : Nat → ClassId) (h0 : Nat) (m1 : Nat) (m2 : Nat) (m4 : Nat) (m5 : Nat) (m6 : Nat) (m7 : Nat) (m8 : Nat) (m10 : Nat) (m11 : Nat) (m12 : Nat) (m13 : Nat) (m14 : Nat) (m15 : Nat) (m16 : Nat) (m17 : Nat) (m18 : Nat) (m19 : Nat) (m20 : Nat) (m21 : Nat) (m23 : Nat) (m24 : Nat) (m25 : Nat) (m26 : Nat) (m27 : Nat) (m28 : Nat) (m31 : Nat) (m33 : Nat) (m35 : Nat) (m37 : Nat) (m39 : Nat) (m40 : Nat) (m41 : Nat) (m42 : Nat) (m43 : Nat) (m52 : Nat) (m54 : Nat) (m56 : Nat) (m57 : Nat) (m58 : Nat) (p0 : Int32) (sz : Nat)  : Met l yX12_count wsX12_count ({ frames := 1, cells := 0, slots := 0, locals := 23 }) (va_Pc [.ref h0, .int p0] (wPre (dC, dI) cy [(h0, .inr (12, [.int 0, .ref m1, .ref m2, .int 0, .ref m4, .ref m5, .ref m6, .ref m7, .ref m8, .int 0, .ref m10, .ref m11, .ref m12, .ref m13, .ref m14, .ref m15, .ref m16, .ref m17, .ref m18, .ref m19, .ref m20, .ref m21, .int 0, .ref m23, .ref m24, .ref m25, .ref m26, .ref m27, .ref m28, .int 0, .int 0, .ref m31, .int 0, .ref m33, .int 0, .ref m35, .int (-1), .ref m37, .int 0, .ref m39, .ref m40, .ref m41, .ref m42, .ref m43, .int 0, .int 0, .int 0, .int 0, .int 0, .int 0, .int 0, .int 0, .ref m52, .int 0, .ref m54, .int 0, .ref m56, .ref m57, .ref m58]))] sz)) (va_Qi (fun (r : Int32) (u : Unit) => r = sp_count p0) (fun (u : Unit) t => True) (va_A [(h0, .inr (12, [.int 0, .ref m1, .ref m2, .int 0, .ref m4, .ref m5, .ref m6, .ref m7, .ref m8, .int 0, .ref m10, .ref m11, .ref m12, .ref m13, .ref m14, .ref m15, .ref m16, .ref m17, .ref m18, .ref m19, .ref m20, .ref m21, .int 0, .ref m23, .ref m24, .ref m25, .ref m26, .ref m27, .ref m28, .int 0, .int 0, .ref m31, .int 0, .ref m33, .int 0, .ref m35, .int (-1), .ref m37, .int 0, .ref m39, .ref m40, .ref m41, .ref m42, .ref m43, .int 0, .int 0, .int 0, .int 0, .int 0, .int 0, .int 0, .int 0, .ref m52, .int 0, .ref m54, .int 0, .ref m56, .ref m57, .ref m58]))] sz)) 0 0 (va_A [(h0, .inr (12, [.int 0, .ref m1, .ref m2, .int 0, .ref m4, .ref m5, .ref m6, .ref m7, .ref m8, .int 0, .ref m10, .ref m11, .ref m12, .ref m13, .ref m14, .ref m15, .ref m16, .ref m17, .ref m18, .ref m19, .ref m20, .ref m21, .int 0, .ref m23, .ref m24, .ref m25, .ref m26, .ref m27, .ref m28, .int 0, .int 0, .ref m31, .int 0, .ref m33, .int 0, .ref m35, .int (-1), .ref m37, .int 0, .ref m39, .ref m40, .ref m41, .ref m42, .ref m43, .int 0, .int 0, .int 0, .int 0, .int 0, .int 0, .int 0, .int 0, .ref m52, .int 0, .ref m54, .int 0, .ref m56, .ref m57, .ref m58]))] sz) := by
  refine Met.ofW (cc := cX12_count) (maxL := 4) (ret := (some .int)) (by decide) rfl ?_
  intro p e s m args below meth c s₁ B hml hv
  obtain ⟨rfl, hsz, hP, hK, hD0, hN⟩ := hv
  have hx := B.exec
  have hb := B.bytes
  have hr := B.returns
  have hts := atoms_spec (ws := wsX12_count) B.pre
  have hown : s.vm.findClass RX12 = some m.cls := findClass_of_methodNamed B.named
  have hlocks := B.notSynchronized
  subst hsz
  have hD := hD0.self (sz := s.heap.size)
  generalize hAe : va_A [(h0, .inr (12, [.int 0, .ref m1, .ref m2, .int 0, .ref m4, .ref m5, .ref m6, .ref m7, .ref m8, .int 0, .ref m10, .ref m11, .ref m12, .ref m13, .ref m14, .ref m15, .ref m16, .ref m17, .ref m18, .ref m19, .ref m20, .ref m21, .int 0, .ref m23, .ref m24, .ref m25, .ref m26, .ref m27, .ref m28, .int 0, .int 0, .ref m31, .int 0, .ref m33, .int 0, .ref m35, .int (-1), .ref m37, .int 0, .ref m39, .ref m40, .ref m41, .ref m42, .ref m43, .int 0, .int 0, .int 0, .int 0, .int 0, .int 0, .int 0, .int 0, .ref m52, .int 0, .ref m54, .int 0, .ref m56, .ref m57, .ref m58]))] s.heap.size = A at hD ⊢
  have hA : ∀ q : Nat, s.heap.size ≤ q → A q := fun q h => by rw [← hAe]; exact Or.inr h
  have hS : va_S A s.heap s.heap [] := va_S.rf
  have hl := lv_entry ([.ref h0, .int p0]) (n := 4) (Nat.le_of_ble_eq_true rfl)
  rw [lg_entry_eq]
  generalize (lg_sl ([.ref h0, .int p0]) ++ List.replicate (4 - (lg_sl ([.ref h0, .int p0])).length) Slot.unset).toArray = ls at hl ⊢
  have hl : lv_has ls 4 [(0, .ref h0), (1, .int p0)] := hl
  refine lv_iconst (v := 0) hx hb dX12_count_0 (by decide) ?_
  refine lv_istore_n (lv' := [(2, .int 0), (0, .ref h0), (1, .int p0)]) hx hb dX12_count_1 rfl hl (by decide) rfl (fun ls hl => ?_)
  refine lv_iload_n hx hb dX12_count_2 rfl (lv_at hl 2 rfl) ?_
  rcases vz_sw 7 p0 with ⟨j9, hj9, ej9⟩ | hout
  · match j9, hj9, ej9 with
    | 0, _, ej9 =>
      refine lv_tableIn (off := 45) (tgt := 48) hx hb dX12_count_3 (by rw [ej9]; decide) (by rw [ej9]; decide) (by rw [ej9]; rfl) (by decide) ?_
      have iej9 : p0.toInt = (0 : Int) := congrArg Int32.toInt ej9
      refine lv_aload_n hx hb dX12_count_48 rfl (lv_at hl 1 rfl) ?_
      refine va_get (D := (dC, dI)) (ci := 12) (v := .int 0) (C := RX12) (T := TX12) (N := 59) hx hb hts (fun _ h9 => List.mem_cons_of_mem _ (List.mem_append_right _ h9)) hown hK hP 0 rfl rfl 0 (by decide) (hts (.fieldLink RX12 133 "SeatsRoundModel" "names" "I") (List.mem_of_getElem? (i := 1) rfl)) (fun _ h9 => h9) rfl dX12_count_49 ?_
      exact W.iret (v := 0) hx hb hr (fun t ht hW => ⟨⟨0, (), rfl, (by unfold sp_count; split <;> first | rfl | (exfalso; omega)), trivial⟩, hS.F ht⟩) hS.2.2 dX12_count_52
    | 1, _, ej9 =>
      refine lv_tableIn (off := 50) (tgt := 53) hx hb dX12_count_3 (by rw [ej9]; decide) (by rw [ej9]; decide) (by rw [ej9]; rfl) (by decide) ?_
      have iej9 : p0.toInt = (1 : Int) := congrArg Int32.toInt ej9
      refine lv_aload_n hx hb dX12_count_53 rfl (lv_at hl 1 rfl) ?_
      change W _ _ _ _ _ _ _ _ _ _ _ _ _ _ _ (F0 m 54 ls [.ref h0])
      refine va_get (D := (dC, dI)) (ci := 12) (v := .int 0) (C := RX12) (T := TX12) (N := 59) hx hb hts (fun _ h9 => List.mem_cons_of_mem _ (List.mem_append_right _ h9)) hown hK hP 0 rfl rfl 3 (by decide) (hts (.fieldLink RX12 140 "SeatsRoundModel" "keepers" "I") (List.mem_of_getElem? (i := 2) rfl)) (fun _ h9 => h9) rfl dX12_count_54 ?_
      exact W.iret (v := 0) hx hb hr (fun t ht hW => ⟨⟨0, (), rfl, (by unfold sp_count; split <;> first | rfl | (exfalso; omega)), trivial⟩, hS.F ht⟩) hS.2.2 dX12_count_57
    | 2, _, ej9 =>
      refine lv_tableIn (off := 55) (tgt := 58) hx hb dX12_count_3 (by rw [ej9]; decide) (by rw [ej9]; decide) (by rw [ej9]; rfl) (by decide) ?_
      have iej9 : p0.toInt = (2 : Int) := congrArg Int32.toInt ej9
      refine lv_aload_n hx hb dX12_count_58 rfl (lv_at hl 1 rfl) ?_
      refine va_get (D := (dC, dI)) (ci := 12) (v := .int 0) (C := RX12) (T := TX12) (N := 59) hx hb hts (fun _ h9 => List.mem_cons_of_mem _ (List.mem_append_right _ h9)) hown hK hP 0 rfl rfl 9 (by decide) (hts (.fieldLink RX12 143 "SeatsRoundModel" "tables" "I") (List.mem_of_getElem? (i := 3) rfl)) (fun _ h9 => h9) rfl dX12_count_59 ?_
      exact W.iret (v := 0) hx hb hr (fun t ht hW => ⟨⟨0, (), rfl, (by unfold sp_count; split <;> first | rfl | (exfalso; omega)), trivial⟩, hS.F ht⟩) hS.2.2 dX12_count_62
    | 3, _, ej9 =>
      refine lv_tableIn (off := 60) (tgt := 63) hx hb dX12_count_3 (by rw [ej9]; decide) (by rw [ej9]; decide) (by rw [ej9]; rfl) (by decide) ?_
      have iej9 : p0.toInt = (3 : Int) := congrArg Int32.toInt ej9
      refine lv_aload_n hx hb dX12_count_63 rfl (lv_at hl 1 rfl) ?_
      refine va_get (D := (dC, dI)) (ci := 12) (v := .int 0) (C := RX12) (T := TX12) (N := 59) hx hb hts (fun _ h9 => List.mem_cons_of_mem _ (List.mem_append_right _ h9)) hown hK hP 0 rfl rfl 22 (by decide) (hts (.fieldLink RX12 146 "SeatsRoundModel" "taped" "I") (List.mem_of_getElem? (i := 4) rfl)) (fun _ h9 => h9) rfl dX12_count_64 ?_
      exact W.iret (v := 0) hx hb hr (fun t ht hW => ⟨⟨0, (), rfl, (by unfold sp_count; split <;> first | rfl | (exfalso; omega)), trivial⟩, hS.F ht⟩) hS.2.2 dX12_count_67
    | 4, _, ej9 =>
      refine lv_tableIn (off := 65) (tgt := 68) hx hb dX12_count_3 (by rw [ej9]; decide) (by rw [ej9]; decide) (by rw [ej9]; rfl) (by decide) ?_
      have iej9 : p0.toInt = (4 : Int) := congrArg Int32.toInt ej9
      refine lv_iconst (v := 0) hx hb dX12_count_68 (by decide) ?_
      refine lv_istore_n (lv' := [(3, .int 0), (2, .int 0), (0, .ref h0), (1, .int p0)]) hx hb dX12_count_69 rfl hl (by decide) rfl (fun ls hl => ?_)
      refine lv_iload_n hx hb dX12_count_70 rfl (lv_at hl 0 rfl) ?_
      change W _ _ _ _ _ _ _ _ _ _ _ _ _ _ _ (F0 m 71 ls [.int 0])
      refine lv_aload_n hx hb dX12_count_71 rfl (lv_at hl 2 rfl) ?_
      refine va_get (D := (dC, dI)) (ci := 12) (v := .int 0) (C := RX12) (T := TX12) (N := 59) hx hb hts (fun _ h9 => List.mem_cons_of_mem _ (List.mem_append_right _ h9)) hown hK hP 0 rfl rfl 3 (by decide) (hts (.fieldLink RX12 140 "SeatsRoundModel" "keepers" "I") (List.mem_of_getElem? (i := 2) rfl)) (fun _ h9 => h9) rfl dX12_count_72 ?_
      refine lv_icmp_ge (tgt := 102) hx hb dX12_count_75 (by decide) (fun _ => ?_) (fun c_1 => absurd c_1 (by decide))
      refine lv_iload_n hx hb dX12_count_102 rfl (lv_at hl 1 rfl) ?_
      exact W.iret (v := 0) hx hb hr (fun t ht hW => ⟨⟨0, (), rfl, (by unfold sp_count; split <;> first | rfl | (exfalso; omega)), trivial⟩, hS.F ht⟩) hS.2.2 dX12_count_103
    | 5, _, ej9 =>
      refine lv_tableIn (off := 65) (tgt := 68) hx hb dX12_count_3 (by rw [ej9]; decide) (by rw [ej9]; decide) (by rw [ej9]; rfl) (by decide) ?_
      have iej9 : p0.toInt = (5 : Int) := congrArg Int32.toInt ej9
      refine lv_iconst (v := 0) hx hb dX12_count_68 (by decide) ?_
      refine lv_istore_n (lv' := [(3, .int 0), (2, .int 0), (0, .ref h0), (1, .int p0)]) hx hb dX12_count_69 rfl hl (by decide) rfl (fun ls hl => ?_)
      refine lv_iload_n hx hb dX12_count_70 rfl (lv_at hl 0 rfl) ?_
      refine lv_aload_n hx hb dX12_count_71 rfl (lv_at hl 2 rfl) ?_
      change W _ _ _ _ _ _ _ _ _ _ _ _ _ _ _ (F0 m 72 ls [.ref h0, .int 0])
      refine va_get (D := (dC, dI)) (ci := 12) (v := .int 0) (C := RX12) (T := TX12) (N := 59) hx hb hts (fun _ h9 => List.mem_cons_of_mem _ (List.mem_append_right _ h9)) hown hK hP 0 rfl rfl 3 (by decide) (hts (.fieldLink RX12 140 "SeatsRoundModel" "keepers" "I") (List.mem_of_getElem? (i := 2) rfl)) (fun _ h9 => h9) rfl dX12_count_72 ?_
      refine lv_icmp_ge (tgt := 102) hx hb dX12_count_75 (by decide) (fun _ => ?_) (fun c_2 => absurd c_2 (by decide))
      refine lv_iload_n hx hb dX12_count_102 rfl (lv_at hl 1 rfl) ?_
      exact W.iret (v := 0) hx hb hr (fun t ht hW => ⟨⟨0, (), rfl, (by unfold sp_count; split <;> first | rfl | (exfalso; omega)), trivial⟩, hS.F ht⟩) hS.2.2 dX12_count_103
    | 6, _, ej9 =>
      refine lv_tableIn (off := 101) (tgt := 104) hx hb dX12_count_3 (by rw [ej9]; decide) (by rw [ej9]; decide) (by rw [ej9]; rfl) (by decide) ?_
      have iej9 : p0.toInt = (6 : Int) := congrArg Int32.toInt ej9
      refine lv_aload_n hx hb dX12_count_104 rfl (lv_at hl 1 rfl) ?_
      refine va_get (D := (dC, dI)) (ci := 12) (v := .int 0) (C := RX12) (T := TX12) (N := 59) hx hb hts (fun _ h9 => List.mem_cons_of_mem _ (List.mem_append_right _ h9)) hown hK hP 0 rfl rfl 29 (by decide) (hts (.fieldLink RX12 290 "SeatsRoundModel" "writings" "I") (List.mem_of_getElem? (i := 5) rfl)) (fun _ h9 => h9) rfl dX12_count_105 ?_
      exact W.iret (v := 0) hx hb hr (fun t ht hW => ⟨⟨0, (), rfl, (by unfold sp_count; split <;> first | rfl | (exfalso; omega)), trivial⟩, hS.F ht⟩) hS.2.2 dX12_count_108
    | 7, _, ej9 =>
      refine lv_tableIn (off := 106) (tgt := 109) hx hb dX12_count_3 (by rw [ej9]; decide) (by rw [ej9]; decide) (by rw [ej9]; rfl) (by decide) ?_
      have iej9 : p0.toInt = (7 : Int) := congrArg Int32.toInt ej9
      refine lv_aload_n hx hb dX12_count_109 rfl (lv_at hl 1 rfl) ?_
      refine va_get (D := (dC, dI)) (ci := 12) (v := .int 0) (C := RX12) (T := TX12) (N := 59) hx hb hts (fun _ h9 => List.mem_cons_of_mem _ (List.mem_append_right _ h9)) hown hK hP 0 rfl rfl 38 (by decide) (hts (.fieldLink RX12 334 "SeatsRoundModel" "bodies" "I") (List.mem_of_getElem? (i := 6) rfl)) (fun _ h9 => h9) rfl dX12_count_110 ?_
      exact W.iret (v := 0) hx hb hr (fun t ht hW => ⟨⟨0, (), rfl, (by unfold sp_count; split <;> first | rfl | (exfalso; omega)), trivial⟩, hS.F ht⟩) hS.2.2 dX12_count_113
    | j9 + 8, hj9, _ => exact absurd hj9 (by omega)
  · refine lv_tableOut (tgt := 114) hx hb dX12_count_3 hout (by decide) ?_
    refine lv_iconst (v := (-1)) hx hb dX12_count_114 (by decide) ?_
    change W _ _ _ _ _ _ _ _ _ _ _ _ _ _ _ (F0 m 115 ls [.int (-1)])
    exact W.iret (v := (-1)) hx hb hr (fun t ht hW => ⟨⟨(-1), (), rfl, (by unfold sp_count; split <;> first | rfl | (exfalso; omega)), trivial⟩, hS.F ht⟩) hS.2.2 dX12_count_115
set_option maxHeartbeats 4000000 in
set_option maxRecDepth 100000 in
theorem c_M_row (l : Launch) (dC : Nat → ClassId) (dI : Nat → Nat → Nat) (cy : Nat → ClassId) (h0 : Nat) (m1 : Nat) (m2 : Nat) (m4 : Nat) (m5 : Nat) (m6 : Nat) (m7 : Nat) (m8 : Nat) (m10 : Nat) (m11 : Nat) (m12 : Nat) (m13 : Nat) (m14 : Nat) (m15 : Nat) (m16 : Nat) (m17 : Nat) (m18 : Nat) (m19 : Nat) (m20 : Nat) (m21 : Nat) (m23 : Nat) (m24 : Nat) (m25 : Nat) (m26 : Nat) (m27 : Nat) (m28 : Nat) (m31 : Nat) (m33 : Nat) (m35 : Nat) (m37 : Nat) (m39 : Nat) (m40 : Nat) (m41 : Nat) (m42 : Nat) (m43 : Nat) (m52 : Nat) (m54 : Nat) (m56 : Nat) (m57 : Nat) (m58 : Nat) (p0 : Int32) (p1 : Int32) (p2 : Int32) (sz : Nat)  : Met l yX12_row wsX12_row ({ frames := 3, cells := 0, slots := 0, locals := 65 }) (va_Pc [.ref h0, .int p0, .int p1, .int p2] (wPre (dC, dI) cy [(h0, .inr (12, [.int 0, .ref m1, .ref m2, .int 0, .ref m4, .ref m5, .ref m6, .ref m7, .ref m8, .int 0, .ref m10, .ref m11, .ref m12, .ref m13, .ref m14, .ref m15, .ref m16, .ref m17, .ref m18, .ref m19, .ref m20, .ref m21, .int 0, .ref m23, .ref m24, .ref m25, .ref m26, .ref m27, .ref m28, .int 0, .int 0, .ref m31, .int 0, .ref m33, .int 0, .ref m35, .int (-1), .ref m37, .int 0, .ref m39, .ref m40, .ref m41, .ref m42, .ref m43, .int 0, .int 0, .int 0, .int 0, .int 0, .int 0, .int 0, .int 0, .ref m52, .int 0, .ref m54, .int 0, .ref m56, .ref m57, .ref m58])), (m39, .inl (cy 0, 6, .inl (fun _ => (-1)))), (m40, .inl (cy 0, 6, .inl (fun _ => (-1)))), (m41, .inl (cy 0, 6, .inl (fun _ => 0))), (m42, .inl (cy 4, 360, .inr (.inl (fun _ => 0))))] sz)) (va_Qi (fun (r : Int32) (u : Unit) => r = sp_row p0 p1 p2) (fun (u : Unit) t => True) (va_A [(h0, .inr (12, [.int 0, .ref m1, .ref m2, .int 0, .ref m4, .ref m5, .ref m6, .ref m7, .ref m8, .int 0, .ref m10, .ref m11, .ref m12, .ref m13, .ref m14, .ref m15, .ref m16, .ref m17, .ref m18, .ref m19, .ref m20, .ref m21, .int 0, .ref m23, .ref m24, .ref m25, .ref m26, .ref m27, .ref m28, .int 0, .int 0, .ref m31, .int 0, .ref m33, .int 0, .ref m35, .int (-1), .ref m37, .int 0, .ref m39, .ref m40, .ref m41, .ref m42, .ref m43, .int 0, .int 0, .int 0, .int 0, .int 0, .int 0, .int 0, .int 0, .ref m52, .int 0, .ref m54, .int 0, .ref m56, .ref m57, .ref m58])), (m39, .inl (cy 0, 6, .inl (fun _ => (-1)))), (m40, .inl (cy 0, 6, .inl (fun _ => (-1)))), (m41, .inl (cy 0, 6, .inl (fun _ => 0))), (m42, .inl (cy 4, 360, .inr (.inl (fun _ => 0))))] sz)) 0 0 (va_A [(h0, .inr (12, [.int 0, .ref m1, .ref m2, .int 0, .ref m4, .ref m5, .ref m6, .ref m7, .ref m8, .int 0, .ref m10, .ref m11, .ref m12, .ref m13, .ref m14, .ref m15, .ref m16, .ref m17, .ref m18, .ref m19, .ref m20, .ref m21, .int 0, .ref m23, .ref m24, .ref m25, .ref m26, .ref m27, .ref m28, .int 0, .int 0, .ref m31, .int 0, .ref m33, .int 0, .ref m35, .int (-1), .ref m37, .int 0, .ref m39, .ref m40, .ref m41, .ref m42, .ref m43, .int 0, .int 0, .int 0, .int 0, .int 0, .int 0, .int 0, .int 0, .ref m52, .int 0, .ref m54, .int 0, .ref m56, .ref m57, .ref m58])), (m39, .inl (cy 0, 6, .inl (fun _ => (-1)))), (m40, .inl (cy 0, 6, .inl (fun _ => (-1)))), (m41, .inl (cy 0, 6, .inl (fun _ => 0))), (m42, .inl (cy 4, 360, .inr (.inl (fun _ => 0))))] sz) := by
  refine Met.ofW (cc := cX12_row) (maxL := 5) (ret := (some .int)) (by decide) rfl ?_
  intro p e s m args below meth c s₁ B hml hv
  obtain ⟨rfl, hsz, hP, hK, hD0, hN⟩ := hv
  have hx := B.exec
  have hb := B.bytes
  have hr := B.returns
  have hts := atoms_spec (ws := wsX12_row) B.pre
  have hown : s.vm.findClass RX12 = some m.cls := findClass_of_methodNamed B.named
  have hlocks := B.notSynchronized
  subst hsz
  have hD := hD0.self (sz := s.heap.size)
  generalize hAe : va_A [(h0, .inr (12, [.int 0, .ref m1, .ref m2, .int 0, .ref m4, .ref m5, .ref m6, .ref m7, .ref m8, .int 0, .ref m10, .ref m11, .ref m12, .ref m13, .ref m14, .ref m15, .ref m16, .ref m17, .ref m18, .ref m19, .ref m20, .ref m21, .int 0, .ref m23, .ref m24, .ref m25, .ref m26, .ref m27, .ref m28, .int 0, .int 0, .ref m31, .int 0, .ref m33, .int 0, .ref m35, .int (-1), .ref m37, .int 0, .ref m39, .ref m40, .ref m41, .ref m42, .ref m43, .int 0, .int 0, .int 0, .int 0, .int 0, .int 0, .int 0, .int 0, .ref m52, .int 0, .ref m54, .int 0, .ref m56, .ref m57, .ref m58])), (m39, .inl (cy 0, 6, .inl (fun _ => (-1)))), (m40, .inl (cy 0, 6, .inl (fun _ => (-1)))), (m41, .inl (cy 0, 6, .inl (fun _ => 0))), (m42, .inl (cy 4, 360, .inr (.inl (fun _ => 0))))] s.heap.size = A at hD ⊢
  have hA : ∀ q : Nat, s.heap.size ≤ q → A q := fun q h => by rw [← hAe]; exact Or.inr h
  have hS : va_S A s.heap s.heap [] := va_S.rf
  have hl := lv_entry ([.ref h0, .int p0, .int p1, .int p2]) (n := 5) (Nat.le_of_ble_eq_true rfl)
  rw [lg_entry_eq]
  generalize (lg_sl ([.ref h0, .int p0, .int p1, .int p2]) ++ List.replicate (5 - (lg_sl ([.ref h0, .int p0, .int p1, .int p2])).length) Slot.unset).toArray = ls at hl ⊢
  have hl : lv_has ls 5 [(0, .ref h0), (1, .int p0), (2, .int p1), (3, .int p2)] := hl
  refine lv_iload_n hx hb dX12_row_0 rfl (lv_at hl 1 rfl) ?_
  have hPc := hP.sub (ws' := []) [] rfl
  have hDc := hD.sub (ws' := []) [] (by decide) rfl
  refine vz_callSi (va_runS (As := [.int p0]) (rest := []) ⟨hx, hb, hml, hown, hts⟩ (c_M_isShelf l dC dI cy p0 s.heap.size) (va_cwS 1 hts gX12_row_X12_isShelf rfl rfl rfl (by decide +kernel) ⟨Nat.le_of_ble_eq_true rfl, Nat.le_of_ble_eq_true rfl⟩) (wp_S hK hN hPc hDc) rfl rfl hl.1 rfl (lv_room (Nat.le_of_ble_eq_true rfl)) dX12_row_1 ⟨Nat.le_of_ble_eq_true rfl, Nat.le_of_ble_eq_true rfl⟩) (fun r_1 hw_1 => ?_)
  rcases hw_1 with ⟨c_1, hw_1⟩ | ⟨c_1, hw_1⟩ <;> subst hw_1
  · have ic_1 : 0 ≤ p0.toInt ∧ p0.toInt ≤ 5 := c_1
    refine lv_if_eq (tgt := 22) hx hb dX12_row_4 (by decide) (fun c_2 => absurd c_2 (by decide)) (fun _ => ?_)
    refine lv_iload_n hx hb dX12_row_7 rfl (lv_at hl 2 rfl) ?_
    refine lv_iconst (v := 0) hx hb dX12_row_8 (by decide) ?_
    refine lv_iconst (v := 4) hx hb dX12_row_9 (by decide) ?_
    have hPc := hP.sub (ws' := []) [] rfl
    have hDc := hD.sub (ws' := []) [] (by decide) rfl
    refine vz_callSi (va_runS (As := [.int p1, .int 0, .int 4]) (rest := []) ⟨hx, hb, hml, hown, hts⟩ (c_M_in l dC dI cy p1 0 4 s.heap.size) (va_cwS 3 hts gX12_row_X12_in rfl rfl rfl (by decide +kernel) ⟨Nat.le_of_ble_eq_true rfl, Nat.le_of_ble_eq_true rfl⟩) (wp_S hK hN hPc hDc) rfl rfl hl.1 rfl (lv_room (Nat.le_of_ble_eq_true rfl)) dX12_row_10 ⟨Nat.le_of_ble_eq_true rfl, Nat.le_of_ble_eq_true rfl⟩) (fun r_3 hw_3 => ?_)
    rcases hw_3 with ⟨c_3, hw_3⟩ | ⟨c_3, hw_3⟩ <;> subst hw_3
    · have ic_3 : (0 : Int) ≤ p1.toInt ∧ p1.toInt ≤ (4 : Int) := c_3
      refine lv_if_eq (tgt := 22) hx hb dX12_row_13 (by decide) (fun c_4 => absurd c_4 (by decide)) (fun _ => ?_)
      refine lv_iload_n hx hb dX12_row_16 rfl (lv_at hl 3 rfl) ?_
      change W _ _ _ _ _ _ _ _ _ _ _ _ _ _ _ (F0 m 17 ls [.int p2])
      refine lv_bipush (v := 60) hx hb dX12_row_17 (by decide) ?_
      refine lv_icmp_le (tgt := 24) hx hb dX12_row_19 (by decide) (fun c_5 => ?_) (fun c_5 => ?_)
      · have ic_5 : p2.toInt ≤ (60 : Int) := Int32.le_iff_toInt_le.mp c_5
        refine lv_iload_n hx hb dX12_row_24 rfl (lv_at hl 3 rfl) ?_
        refine lv_if_ge (tgt := 31) hx hb dX12_row_25 (by decide) (fun c_6 => ?_) (fun c_6 => ?_)
        · have ic_6 : (0 : Int) ≤ p2.toInt := Int32.le_iff_toInt_le.mp c_6
          refine lv_aload_n hx hb dX12_row_31 rfl (lv_at hl 0 rfl) ?_
          refine va_get (D := (dC, dI)) (ci := 12) (v := .ref m39) (C := RX12) (T := TX12) (N := 59) hx hb hts (fun _ h9 => List.mem_cons_of_mem _ (List.mem_append_right _ h9)) hown hK hP 0 rfl rfl 39 (by decide) (hts (.fieldLink RX12 102 "SeatsRoundModel" "shelfIs" "[I") (List.mem_of_getElem? (i := 1) rfl)) (fun _ h9 => h9) rfl dX12_row_32 ?_
          refine lv_iload_n hx hb dX12_row_35 rfl (lv_at hl 1 rfl) ?_
          refine lv_iconst (v := (-1)) hx hb dX12_row_36 (by decide) ?_
          refine va_iast hx hb hK hP hD hS 1 0 rfl rfl (vp_in_iff.mpr ⟨by omega, by omega⟩) dX12_row_37 (fun H locs hP hD hS => ?_)
          generalize upd (fun _ => (-1)) (Int32.toNatClampNeg p0) (-1) = g_7 at hP hD
          have hP : va_P (dC, dI) vwCl [(h0, .inr (12, [.int 0, .ref m1, .ref m2, .int 0, .ref m4, .ref m5, .ref m6, .ref m7, .ref m8, .int 0, .ref m10, .ref m11, .ref m12, .ref m13, .ref m14, .ref m15, .ref m16, .ref m17, .ref m18, .ref m19, .ref m20, .ref m21, .int 0, .ref m23, .ref m24, .ref m25, .ref m26, .ref m27, .ref m28, .int 0, .int 0, .ref m31, .int 0, .ref m33, .int 0, .ref m35, .int (-1), .ref m37, .int 0, .ref m39, .ref m40, .ref m41, .ref m42, .ref m43, .int 0, .int 0, .int 0, .int 0, .int 0, .int 0, .int 0, .int 0, .ref m52, .int 0, .ref m54, .int 0, .ref m56, .ref m57, .ref m58])), (m39, .inl (cy 0, 6, .inl g_7)), (m40, .inl (cy 0, 6, .inl (fun _ => (-1)))), (m41, .inl (cy 0, 6, .inl (fun _ => 0))), (m42, .inl (cy 4, 360, .inr (.inl (fun _ => 0))))] H := hP
          have hD : va_D A [(h0, .inr (12, [.int 0, .ref m1, .ref m2, .int 0, .ref m4, .ref m5, .ref m6, .ref m7, .ref m8, .int 0, .ref m10, .ref m11, .ref m12, .ref m13, .ref m14, .ref m15, .ref m16, .ref m17, .ref m18, .ref m19, .ref m20, .ref m21, .int 0, .ref m23, .ref m24, .ref m25, .ref m26, .ref m27, .ref m28, .int 0, .int 0, .ref m31, .int 0, .ref m33, .int 0, .ref m35, .int (-1), .ref m37, .int 0, .ref m39, .ref m40, .ref m41, .ref m42, .ref m43, .int 0, .int 0, .int 0, .int 0, .int 0, .int 0, .int 0, .int 0, .ref m52, .int 0, .ref m54, .int 0, .ref m56, .ref m57, .ref m58])), (m39, .inl (cy 0, 6, .inl g_7)), (m40, .inl (cy 0, 6, .inl (fun _ => (-1)))), (m41, .inl (cy 0, 6, .inl (fun _ => 0))), (m42, .inl (cy 4, 360, .inr (.inl (fun _ => 0))))] := hD
          refine lv_aload_n hx hb dX12_row_38 rfl (lv_at hl 0 rfl) ?_
          change W _ _ _ _ _ _ _ _ _ _ _ _ _ _ _ (F0 m 39 ls [.ref h0])
          refine va_get (D := (dC, dI)) (ci := 12) (v := .ref m40) (C := RX12) (T := TX12) (N := 59) hx hb hts (fun _ h9 => List.mem_cons_of_mem _ (List.mem_append_right _ h9)) hown hK hP 0 rfl rfl 40 (by decide) (hts (.fieldLink RX12 105 "SeatsRoundModel" "shelfSort" "[I") (List.mem_of_getElem? (i := 2) rfl)) (fun _ h9 => h9) rfl dX12_row_39 ?_
          refine lv_iload_n hx hb dX12_row_42 rfl (lv_at hl 1 rfl) ?_
          refine lv_iload_n hx hb dX12_row_43 rfl (lv_at hl 2 rfl) ?_
          refine va_iast hx hb hK hP hD hS 2 0 rfl rfl (vp_in_iff.mpr ⟨by omega, by omega⟩) dX12_row_44 (fun H locs hP hD hS => ?_)
          generalize upd (fun _ => (-1)) (Int32.toNatClampNeg p0) p1 = g_8 at hP hD
          have hP : va_P (dC, dI) vwCl [(h0, .inr (12, [.int 0, .ref m1, .ref m2, .int 0, .ref m4, .ref m5, .ref m6, .ref m7, .ref m8, .int 0, .ref m10, .ref m11, .ref m12, .ref m13, .ref m14, .ref m15, .ref m16, .ref m17, .ref m18, .ref m19, .ref m20, .ref m21, .int 0, .ref m23, .ref m24, .ref m25, .ref m26, .ref m27, .ref m28, .int 0, .int 0, .ref m31, .int 0, .ref m33, .int 0, .ref m35, .int (-1), .ref m37, .int 0, .ref m39, .ref m40, .ref m41, .ref m42, .ref m43, .int 0, .int 0, .int 0, .int 0, .int 0, .int 0, .int 0, .int 0, .ref m52, .int 0, .ref m54, .int 0, .ref m56, .ref m57, .ref m58])), (m39, .inl (cy 0, 6, .inl g_7)), (m40, .inl (cy 0, 6, .inl g_8)), (m41, .inl (cy 0, 6, .inl (fun _ => 0))), (m42, .inl (cy 4, 360, .inr (.inl (fun _ => 0))))] H := hP
          have hD : va_D A [(h0, .inr (12, [.int 0, .ref m1, .ref m2, .int 0, .ref m4, .ref m5, .ref m6, .ref m7, .ref m8, .int 0, .ref m10, .ref m11, .ref m12, .ref m13, .ref m14, .ref m15, .ref m16, .ref m17, .ref m18, .ref m19, .ref m20, .ref m21, .int 0, .ref m23, .ref m24, .ref m25, .ref m26, .ref m27, .ref m28, .int 0, .int 0, .ref m31, .int 0, .ref m33, .int 0, .ref m35, .int (-1), .ref m37, .int 0, .ref m39, .ref m40, .ref m41, .ref m42, .ref m43, .int 0, .int 0, .int 0, .int 0, .int 0, .int 0, .int 0, .int 0, .ref m52, .int 0, .ref m54, .int 0, .ref m56, .ref m57, .ref m58])), (m39, .inl (cy 0, 6, .inl g_7)), (m40, .inl (cy 0, 6, .inl g_8)), (m41, .inl (cy 0, 6, .inl (fun _ => 0))), (m42, .inl (cy 4, 360, .inr (.inl (fun _ => 0))))] := hD
          refine lv_aload_n hx hb dX12_row_45 rfl (lv_at hl 0 rfl) ?_
          refine va_get (D := (dC, dI)) (ci := 12) (v := .ref m41) (C := RX12) (T := TX12) (N := 59) hx hb hts (fun _ h9 => List.mem_cons_of_mem _ (List.mem_append_right _ h9)) hown hK hP 0 rfl rfl 41 (by decide) (hts (.fieldLink RX12 108 "SeatsRoundModel" "shelfSize" "[I") (List.mem_of_getElem? (i := 3) rfl)) (fun _ h9 => h9) rfl dX12_row_46 ?_
          refine lv_iload_n hx hb dX12_row_49 rfl (lv_at hl 1 rfl) ?_
          refine lv_iload_n hx hb dX12_row_50 rfl (lv_at hl 3 rfl) ?_
          change W _ _ _ _ _ _ _ _ _ _ _ _ _ _ _ (F0 m 51 ls [.int p2, .int p0, .ref m41])
          refine va_iast hx hb hK hP hD hS 3 0 rfl rfl (vp_in_iff.mpr ⟨by omega, by omega⟩) dX12_row_51 (fun H locs hP hD hS => ?_)
          generalize upd (fun _ => 0) (Int32.toNatClampNeg p0) p2 = g_9 at hP hD
          have hP : va_P (dC, dI) vwCl [(h0, .inr (12, [.int 0, .ref m1, .ref m2, .int 0, .ref m4, .ref m5, .ref m6, .ref m7, .ref m8, .int 0, .ref m10, .ref m11, .ref m12, .ref m13, .ref m14, .ref m15, .ref m16, .ref m17, .ref m18, .ref m19, .ref m20, .ref m21, .int 0, .ref m23, .ref m24, .ref m25, .ref m26, .ref m27, .ref m28, .int 0, .int 0, .ref m31, .int 0, .ref m33, .int 0, .ref m35, .int (-1), .ref m37, .int 0, .ref m39, .ref m40, .ref m41, .ref m42, .ref m43, .int 0, .int 0, .int 0, .int 0, .int 0, .int 0, .int 0, .int 0, .ref m52, .int 0, .ref m54, .int 0, .ref m56, .ref m57, .ref m58])), (m39, .inl (cy 0, 6, .inl g_7)), (m40, .inl (cy 0, 6, .inl g_8)), (m41, .inl (cy 0, 6, .inl g_9)), (m42, .inl (cy 4, 360, .inr (.inl (fun _ => 0))))] H := hP
          have hD : va_D A [(h0, .inr (12, [.int 0, .ref m1, .ref m2, .int 0, .ref m4, .ref m5, .ref m6, .ref m7, .ref m8, .int 0, .ref m10, .ref m11, .ref m12, .ref m13, .ref m14, .ref m15, .ref m16, .ref m17, .ref m18, .ref m19, .ref m20, .ref m21, .int 0, .ref m23, .ref m24, .ref m25, .ref m26, .ref m27, .ref m28, .int 0, .int 0, .ref m31, .int 0, .ref m33, .int 0, .ref m35, .int (-1), .ref m37, .int 0, .ref m39, .ref m40, .ref m41, .ref m42, .ref m43, .int 0, .int 0, .int 0, .int 0, .int 0, .int 0, .int 0, .int 0, .ref m52, .int 0, .ref m54, .int 0, .ref m56, .ref m57, .ref m58])), (m39, .inl (cy 0, 6, .inl g_7)), (m40, .inl (cy 0, 6, .inl g_8)), (m41, .inl (cy 0, 6, .inl g_9)), (m42, .inl (cy 4, 360, .inr (.inl (fun _ => 0))))] := hD
          refine lv_iconst (v := 0) hx hb dX12_row_52 (by decide) ?_
          refine lv_istore (lv' := [(4, .int 0), (0, .ref h0), (1, .int p0), (2, .int p1), (3, .int p2)]) hx hb dX12_row_53 hl (by decide) rfl (fun ls hl => ?_)
          obtain ⟨sN, hsN, hp0⟩ : ∃ j : Nat, j ≤ 5 ∧ p0 = nI j := (vz_sw 5 p0).resolve_right (by omega)
          have hw9 : ([(h0, .inr (12, [.int 0, .ref m1, .ref m2, .int 0, .ref m4, .ref m5, .ref m6, .ref m7, .ref m8, .int 0, .ref m10, .ref m11, .ref m12, .ref m13, .ref m14, .ref m15, .ref m16, .ref m17, .ref m18, .ref m19, .ref m20, .ref m21, .int 0, .ref m23, .ref m24, .ref m25, .ref m26, .ref m27, .ref m28, .int 0, .int 0, .ref m31, .int 0, .ref m33, .int 0, .ref m35, .int (-1), .ref m37, .int 0, .ref m39, .ref m40, .ref m41, .ref m42, .ref m43, .int 0, .int 0, .int 0, .int 0, .int 0, .int 0, .int 0, .int 0, .ref m52, .int 0, .ref m54, .int 0, .ref m56, .ref m57, .ref m58])), (m39, .inl (cy 0, 6, .inl g_7)), (m40, .inl (cy 0, 6, .inl g_8)), (m41, .inl (cy 0, 6, .inl g_9)), (m42, .inl (cy 4, 360, .inr (.inl (fun _ => 0))))] : va_W)[0]? = some (h0, .inr (12, [.int 0, .ref m1, .ref m2, .int 0, .ref m4, .ref m5, .ref m6, .ref m7, .ref m8, .int 0, .ref m10, .ref m11, .ref m12, .ref m13, .ref m14, .ref m15, .ref m16, .ref m17, .ref m18, .ref m19, .ref m20, .ref m21, .int 0, .ref m23, .ref m24, .ref m25, .ref m26, .ref m27, .ref m28, .int 0, .int 0, .ref m31, .int 0, .ref m33, .int 0, .ref m35, .int (-1), .ref m37, .int 0, .ref m39, .ref m40, .ref m41, .ref m42, .ref m43, .int 0, .int 0, .int 0, .int 0, .int 0, .int 0, .int 0, .int 0, .ref m52, .int 0, .ref m54, .int 0, .ref m56, .ref m57, .ref m58])) := rfl
          refine m_row_loop (D := (dC, dI)) (cy := cy) (A := A) (H0 := s.heap) (k1 := 4) (kf := m42) (h0 := h0) hp0 hsN hx hb hts hown hK hw9 rfl (by decide) (Nat.le_of_ble_eq_true rfl) (fun g H locs ls hP hD hS => ?_) 60 0 (fun _ => 0) H _ ls (by decide) hP hD hS (lv_sub hl [0, 1, 2, 3, 4] rfl)
          have hP : va_P (dC, dI) vwCl [(h0, .inr (12, [.int 0, .ref m1, .ref m2, .int 0, .ref m4, .ref m5, .ref m6, .ref m7, .ref m8, .int 0, .ref m10, .ref m11, .ref m12, .ref m13, .ref m14, .ref m15, .ref m16, .ref m17, .ref m18, .ref m19, .ref m20, .ref m21, .int 0, .ref m23, .ref m24, .ref m25, .ref m26, .ref m27, .ref m28, .int 0, .int 0, .ref m31, .int 0, .ref m33, .int 0, .ref m35, .int (-1), .ref m37, .int 0, .ref m39, .ref m40, .ref m41, .ref m42, .ref m43, .int 0, .int 0, .int 0, .int 0, .int 0, .int 0, .int 0, .int 0, .ref m52, .int 0, .ref m54, .int 0, .ref m56, .ref m57, .ref m58])), (m39, .inl (cy 0, 6, .inl g_7)), (m40, .inl (cy 0, 6, .inl g_8)), (m41, .inl (cy 0, 6, .inl g_9)), (m42, .inl (cy 4, 360, .inr (.inl g)))] H := hP
          have hD : va_D A [(h0, .inr (12, [.int 0, .ref m1, .ref m2, .int 0, .ref m4, .ref m5, .ref m6, .ref m7, .ref m8, .int 0, .ref m10, .ref m11, .ref m12, .ref m13, .ref m14, .ref m15, .ref m16, .ref m17, .ref m18, .ref m19, .ref m20, .ref m21, .int 0, .ref m23, .ref m24, .ref m25, .ref m26, .ref m27, .ref m28, .int 0, .int 0, .ref m31, .int 0, .ref m33, .int 0, .ref m35, .int (-1), .ref m37, .int 0, .ref m39, .ref m40, .ref m41, .ref m42, .ref m43, .int 0, .int 0, .int 0, .int 0, .int 0, .int 0, .int 0, .int 0, .ref m52, .int 0, .ref m54, .int 0, .ref m56, .ref m57, .ref m58])), (m39, .inl (cy 0, 6, .inl g_7)), (m40, .inl (cy 0, 6, .inl g_8)), (m41, .inl (cy 0, 6, .inl g_9)), (m42, .inl (cy 4, 360, .inr (.inl g)))] := hD
          refine lv_iconst (v := 1) hx hb dX12_row_81 (by decide) ?_
          exact W.iret (v := 1) hx hb hr (fun t ht hW => ⟨⟨1, (), rfl, (by unfold sp_row; split <;> (try split) <;> first | rfl | (exfalso; omega)), trivial⟩, hS.F ht⟩) hS.2.2 dX12_row_82
        · have ic_6 : ¬ (0 : Int) ≤ p2.toInt := fun h9 => c_6 (Int32.le_iff_toInt_le.mpr h9)
          refine lv_bipush (v := (-14)) hx hb dX12_row_28 (by decide) ?_
          exact W.iret (v := (-14)) hx hb hr (fun t ht hW => ⟨⟨(-14), (), rfl, (by unfold sp_row; split <;> (try split) <;> first | rfl | (exfalso; omega)), trivial⟩, hS.F ht⟩) hS.2.2 dX12_row_30
      · have ic_5 : ¬ p2.toInt ≤ (60 : Int) := fun h9 => c_5 (Int32.le_iff_toInt_le.mpr h9)
        refine lv_iconst (v := (-1)) hx hb dX12_row_22 (by decide) ?_
        exact W.iret (v := (-1)) hx hb hr (fun t ht hW => ⟨⟨(-1), (), rfl, (by unfold sp_row; split <;> (try split) <;> first | rfl | (exfalso; omega)), trivial⟩, hS.F ht⟩) hS.2.2 dX12_row_23
    · have ic_3 : ¬ ((0 : Int) ≤ p1.toInt ∧ p1.toInt ≤ (4 : Int)) := c_3
      refine lv_if_eq (tgt := 22) hx hb dX12_row_13 (by decide) (fun _ => ?_) (fun c_10 => absurd c_10 (by decide))
      refine lv_iconst (v := (-1)) hx hb dX12_row_22 (by decide) ?_
      change W _ _ _ _ _ _ _ _ _ _ _ _ _ _ _ (F0 m 23 ls [.int (-1)])
      exact W.iret (v := (-1)) hx hb hr (fun t ht hW => ⟨⟨(-1), (), rfl, (by unfold sp_row; split <;> (try split) <;> first | rfl | (exfalso; omega)), trivial⟩, hS.F ht⟩) hS.2.2 dX12_row_23
  · have ic_1 : ¬ (0 ≤ p0.toInt ∧ p0.toInt ≤ 5) := c_1
    refine lv_if_eq (tgt := 22) hx hb dX12_row_4 (by decide) (fun _ => ?_) (fun c_11 => absurd c_11 (by decide))
    refine lv_iconst (v := (-1)) hx hb dX12_row_22 (by decide) ?_
    exact W.iret (v := (-1)) hx hb hr (fun t ht hW => ⟨⟨(-1), (), rfl, (by unfold sp_row; split <;> (try split) <;> first | rfl | (exfalso; omega)), trivial⟩, hS.F ht⟩) hS.2.2 dX12_row_23
