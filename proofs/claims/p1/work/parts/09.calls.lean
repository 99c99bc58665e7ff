set_option maxHeartbeats 4000000 in
set_option maxRecDepth 100000 in
theorem c_feed_bad (l : Launch) (dC : Nat → ClassId) (dI : Nat → Nat → Nat) (cy : Nat → ClassId) (h0 : Nat) (a0 : Nat) (a1 : Nat) (a2 : Nat) (a3 : Nat) (a4 : Nat) (a5 : Nat) (a7 : Nat) (a8 : Nat) (a9 : Nat) (a10 : Nat) (a11 : Nat) (a12 : Nat) (p0 : Int32) (p1 : Int32) (sz : Nat) (hbad : p0.toInt < 1 ∨ 4 < p0.toInt) : Met l yX11_feed wsX11_feed ({ frames := 1, cells := 0, slots := 0, locals := 23 }) (va_Pc [.ref h0, .int p0, .int p1] (wPre (dC, dI) cy [(h0, .inr (11, [.ref a0, .ref a1, .ref a2, .ref a3, .ref a4, .ref a5, .int 0, .ref a7, .ref a8, .ref a9, .ref a10, .ref a11, .ref a12]))] sz)) (va_Qi (fun (r : Int32) (u : Unit) => r = -1) (fun (u : Unit) t => True) (va_A [(h0, .inr (11, [.ref a0, .ref a1, .ref a2, .ref a3, .ref a4, .ref a5, .int 0, .ref a7, .ref a8, .ref a9, .ref a10, .ref a11, .ref a12]))] sz)) 0 0 (va_A [(h0, .inr (11, [.ref a0, .ref a1, .ref a2, .ref a3, .ref a4, .ref a5, .int 0, .ref a7, .ref a8, .ref a9, .ref a10, .ref a11, .ref a12]))] sz) := by
  refine Met.ofW (cc := cX11_feed) (maxL := 3) (ret := (some .int)) (by decide) rfl ?_
  intro p e s m args below meth c s₁ B hml hv
  obtain ⟨rfl, hsz, hP, hK, hD0, hN⟩ := hv
  have hx := B.exec
  have hb := B.bytes
  have hr := B.returns
  have hts := atoms_spec (ws := wsX11_feed) B.pre
  have hown : s.vm.findClass RX11 = some m.cls := findClass_of_methodNamed B.named
  have hlocks := B.notSynchronized
  subst hsz
  have hD := hD0.self (sz := s.heap.size)
  generalize hAe : va_A [(h0, .inr (11, [.ref a0, .ref a1, .ref a2, .ref a3, .ref a4, .ref a5, .int 0, .ref a7, .ref a8, .ref a9, .ref a10, .ref a11, .ref a12]))] s.heap.size = A at hD ⊢
  have hA : ∀ q : Nat, s.heap.size ≤ q → A q := fun q h => by rw [← hAe]; exact Or.inr h
  have hS : va_S A s.heap s.heap [] := va_S.rf
  have hl := lv_entry ([.ref h0, .int p0, .int p1]) (n := 3) (Nat.le_of_ble_eq_true rfl)
  rw [lg_entry_eq]
  generalize (lg_sl ([.ref h0, .int p0, .int p1]) ++ List.replicate (3 - (lg_sl ([.ref h0, .int p0, .int p1])).length) Slot.unset).toArray = ls at hl ⊢
  have hl : lv_has ls 3 [(0, .ref h0), (1, .int p0), (2, .int p1)] := hl
  refine lv_iload_n hx hb dX11_feed_0 rfl (lv_at hl 1 rfl) ?_
  refine lv_iconst (v := 1) hx hb dX11_feed_1 (by decide) ?_
  change W _ _ _ _ _ _ _ _ _ _ _ _ _ _ _ (F0 m 2 ls [.int 1, .int p0])
  refine lv_icmp_lt (tgt := 10) hx hb dX11_feed_2 (by decide) (fun c_1 => ?_) (fun c_1 => ?_)
  · have ic_1 : p0.toInt < (1 : Int) := Int32.lt_iff_toInt_lt.mp c_1
    refine lv_iconst (v := (-1)) hx hb dX11_feed_10 (by decide) ?_
    exact W.iret (v := (-1)) hx hb hr (fun t ht hW => ⟨⟨(-1), (), rfl, (by first | rfl | (exfalso; omega)), trivial⟩, hS.F ht⟩) hS.2.2 dX11_feed_11
  · have ic_1 : ¬ p0.toInt < (1 : Int) := fun h9 => c_1 (Int32.lt_iff_toInt_lt.mpr h9)
    refine lv_iload_n hx hb dX11_feed_5 rfl (lv_at hl 1 rfl) ?_
    refine lv_iconst (v := 4) hx hb dX11_feed_6 (by decide) ?_
    refine lv_icmp_le (tgt := 12) hx hb dX11_feed_7 (by decide) (fun c_2 => ?_) (fun c_2 => ?_)
    · have ic_2 : p0.toInt ≤ (4 : Int) := Int32.le_iff_toInt_le.mp c_2
      exact absurd True.intro (by omega)
    · have ic_2 : ¬ p0.toInt ≤ (4 : Int) := fun h9 => c_2 (Int32.le_iff_toInt_le.mpr h9)
      refine lv_iconst (v := (-1)) hx hb dX11_feed_10 (by decide) ?_
      exact W.iret (v := (-1)) hx hb hr (fun t ht hW => ⟨⟨(-1), (), rfl, (by first | rfl | (exfalso; omega)), trivial⟩, hS.F ht⟩) hS.2.2 dX11_feed_11
set_option maxHeartbeats 4000000 in
set_option maxRecDepth 100000 in
theorem c_row_bad (l : Launch) (dC : Nat → ClassId) (dI : Nat → Nat → Nat) (cy : Nat → ClassId) (h0 : Nat) (a0 : Nat) (a1 : Nat) (a2 : Nat) (a3 : Nat) (a4 : Nat) (a5 : Nat) (a7 : Nat) (a8 : Nat) (a9 : Nat) (a10 : Nat) (a11 : Nat) (a12 : Nat) (p0 : Int32) (p1 : Int32) (p2 : Int32) (sz : Nat) (hbad : ¬ (0 ≤ p0.toInt ∧ p0.toInt ≤ 5)) : Met l yX11_row wsX11_row ({ frames := 2, cells := 0, slots := 0, locals := 43 }) (va_Pc [.ref h0, .int p0, .int p1, .int p2] (wPre (dC, dI) cy [(h0, .inr (11, [.ref a0, .ref a1, .ref a2, .ref a3, .ref a4, .ref a5, .int 0, .ref a7, .ref a8, .ref a9, .ref a10, .ref a11, .ref a12]))] sz)) (va_Qi (fun (r : Int32) (u : Unit) => r = sp_row p0 p1 p2) (fun (u : Unit) t => True) (va_A [(h0, .inr (11, [.ref a0, .ref a1, .ref a2, .ref a3, .ref a4, .ref a5, .int 0, .ref a7, .ref a8, .ref a9, .ref a10, .ref a11, .ref a12]))] sz)) 0 0 (va_A [(h0, .inr (11, [.ref a0, .ref a1, .ref a2, .ref a3, .ref a4, .ref a5, .int 0, .ref a7, .ref a8, .ref a9, .ref a10, .ref a11, .ref a12]))] sz) := by
  refine Met.ofW (cc := cX11_row) (maxL := 4) (ret := (some .int)) (by decide) rfl ?_
  intro p e s m args below meth c s₁ B hml hv
  obtain ⟨rfl, hsz, hP, hK, hD0, hN⟩ := hv
  have hx := B.exec
  have hb := B.bytes
  have hr := B.returns
  have hts := atoms_spec (ws := wsX11_row) B.pre
  have hown : s.vm.findClass RX11 = some m.cls := findClass_of_methodNamed B.named
  have hlocks := B.notSynchronized
  subst hsz
  have hD := hD0.self (sz := s.heap.size)
  generalize hAe : va_A [(h0, .inr (11, [.ref a0, .ref a1, .ref a2, .ref a3, .ref a4, .ref a5, .int 0, .ref a7, .ref a8, .ref a9, .ref a10, .ref a11, .ref a12]))] s.heap.size = A at hD ⊢
  have hA : ∀ q : Nat, s.heap.size ≤ q → A q := fun q h => by rw [← hAe]; exact Or.inr h
  have hS : va_S A s.heap s.heap [] := va_S.rf
  have hl := lv_entry ([.ref h0, .int p0, .int p1, .int p2]) (n := 4) (Nat.le_of_ble_eq_true rfl)
  rw [lg_entry_eq]
  generalize (lg_sl ([.ref h0, .int p0, .int p1, .int p2]) ++ List.replicate (4 - (lg_sl ([.ref h0, .int p0, .int p1, .int p2])).length) Slot.unset).toArray = ls at hl ⊢
  have hl : lv_has ls 4 [(0, .ref h0), (1, .int p0), (2, .int p1), (3, .int p2)] := hl
  refine lv_iload_n hx hb dX11_row_0 rfl (lv_at hl 1 rfl) ?_
  have hPc := hP.sub (ws' := []) [] rfl
  have hDc := hD.sub (ws' := []) [] (by decide) rfl
  refine vz_callSi (va_runS (As := [.int p0]) (rest := []) ⟨hx, hb, hml, hown, hts⟩ (c_isShelf l dC dI cy p0 s.heap.size) (va_cwS 1 hts gX11_row_X11_isShelf rfl rfl rfl (by decide +kernel) ⟨Nat.le_of_ble_eq_true rfl, Nat.le_of_ble_eq_true rfl⟩) (wp_S hK hN hPc hDc) rfl rfl hl.1 rfl (lv_room (Nat.le_of_ble_eq_true rfl)) dX11_row_1 ⟨Nat.le_of_ble_eq_true rfl, Nat.le_of_ble_eq_true rfl⟩) (fun r_1 hw_1 => ?_)
  rcases hw_1 with ⟨c_1, hw_1⟩ | ⟨c_1, hw_1⟩ <;> subst hw_1
  · have ic_1 : 0 ≤ p0.toInt ∧ p0.toInt ≤ 5 := c_1
    refine lv_if_eq (tgt := 22) hx hb dX11_row_4 (by decide) (fun c_2 => absurd c_2 (by decide)) (fun _ => ?_)
    refine lv_iload_n hx hb dX11_row_7 rfl (lv_at hl 2 rfl) ?_
    refine lv_if_lt (tgt := 22) hx hb dX11_row_8 (by decide) (fun c_3 => ?_) (fun c_3 => ?_)
    · have ic_3 : p1.toInt < (0 : Int) := Int32.lt_iff_toInt_lt.mp c_3
      refine lv_iconst (v := (-1)) hx hb dX11_row_22 (by decide) ?_
      exact W.iret (v := (-1)) hx hb hr (fun t ht hW => ⟨⟨(-1), (), rfl, (by unfold sp_row; split <;> (try split) <;> first | rfl | (exfalso; omega)), trivial⟩, hS.F ht⟩) hS.2.2 dX11_row_23
    · have ic_3 : ¬ p1.toInt < (0 : Int) := fun h9 => c_3 (Int32.lt_iff_toInt_lt.mpr h9)
      refine lv_iload_n hx hb dX11_row_11 rfl (lv_at hl 2 rfl) ?_
      refine lv_iconst (v := 4) hx hb dX11_row_12 (by decide) ?_
      refine lv_icmp_gt (tgt := 22) hx hb dX11_row_13 (by decide) (fun c_4 => ?_) (fun c_4 => ?_)
      · have ic_4 : (4 : Int) < p1.toInt := Int32.lt_iff_toInt_lt.mp c_4
        refine lv_iconst (v := (-1)) hx hb dX11_row_22 (by decide) ?_
        exact W.iret (v := (-1)) hx hb hr (fun t ht hW => ⟨⟨(-1), (), rfl, (by unfold sp_row; split <;> (try split) <;> first | rfl | (exfalso; omega)), trivial⟩, hS.F ht⟩) hS.2.2 dX11_row_23
      · have ic_4 : ¬ (4 : Int) < p1.toInt := fun h9 => c_4 (Int32.lt_iff_toInt_lt.mpr h9)
        refine lv_iload_n hx hb dX11_row_16 rfl (lv_at hl 3 rfl) ?_
        change W _ _ _ _ _ _ _ _ _ _ _ _ _ _ _ (F0 m 17 ls [.int p2])
        refine lv_bipush (v := 60) hx hb dX11_row_17 (by decide) ?_
        refine lv_icmp_le (tgt := 24) hx hb dX11_row_19 (by decide) (fun c_5 => ?_) (fun c_5 => ?_)
        · have ic_5 : p2.toInt ≤ (60 : Int) := Int32.le_iff_toInt_le.mp c_5
          exact absurd True.intro (by omega)
        · have ic_5 : ¬ p2.toInt ≤ (60 : Int) := fun h9 => c_5 (Int32.le_iff_toInt_le.mpr h9)
          refine lv_iconst (v := (-1)) hx hb dX11_row_22 (by decide) ?_
          exact W.iret (v := (-1)) hx hb hr (fun t ht hW => ⟨⟨(-1), (), rfl, (by unfold sp_row; split <;> (try split) <;> first | rfl | (exfalso; omega)), trivial⟩, hS.F ht⟩) hS.2.2 dX11_row_23
  · have ic_1 : ¬ (0 ≤ p0.toInt ∧ p0.toInt ≤ 5) := c_1
    refine lv_if_eq (tgt := 22) hx hb dX11_row_4 (by decide) (fun _ => ?_) (fun c_6 => absurd c_6 (by decide))
    refine lv_iconst (v := (-1)) hx hb dX11_row_22 (by decide) ?_
    exact W.iret (v := (-1)) hx hb hr (fun t ht hW => ⟨⟨(-1), (), rfl, (by unfold sp_row; split <;> (try split) <;> first | rfl | (exfalso; omega)), trivial⟩, hS.F ht⟩) hS.2.2 dX11_row_23
set_option maxHeartbeats 4000000 in
set_option maxRecDepth 100000 in
theorem c_feed_1 (l : Launch) (dC : Nat → ClassId) (dI : Nat → Nat → Nat) (cy : Nat → ClassId) (h0 : Nat) (a0 : Nat) (a1 : Nat) (a2 : Nat) (a3 : Nat) (a4 : Nat) (a5 : Nat) (a7 : Nat) (a8 : Nat) (a9 : Nat) (a10 : Nat) (a11 : Nat) (a12 : Nat) (b0 : Nat) (p0 : Int32) (sz : Nat)  : Met l yX11_feed wsX11_feed ({ frames := 2, cells := 0, slots := 0, locals := 46 }) (va_Pc [.ref h0, .int 1, .int p0] (wPre (dC, dI) cy [(h0, .inr (11, [.ref a0, .ref a1, .ref a2, .ref a3, .ref a4, .ref a5, .int 0, .ref a7, .ref a8, .ref a9, .ref a10, .ref a11, .ref a12])), (a0, .inr (9, [.ref b0, .int 0])), (b0, .inl (cy 1, 80, .inl (fun _ => 0)))] sz)) (va_Qi (fun (r : Int32) (u : Unit) => r = 1) (fun (u : Unit) t => True) (va_A [(h0, .inr (11, [.ref a0, .ref a1, .ref a2, .ref a3, .ref a4, .ref a5, .int 0, .ref a7, .ref a8, .ref a9, .ref a10, .ref a11, .ref a12])), (a0, .inr (9, [.ref b0, .int 0])), (b0, .inl (cy 1, 80, .inl (fun _ => 0)))] sz)) 0 0 (va_A [(h0, .inr (11, [.ref a0, .ref a1, .ref a2, .ref a3, .ref a4, .ref a5, .int 0, .ref a7, .ref a8, .ref a9, .ref a10, .ref a11, .ref a12])), (a0, .inr (9, [.ref b0, .int 0])), (b0, .inl (cy 1, 80, .inl (fun _ => 0)))] sz) := by
  refine Met.ofW (cc := cX11_feed) (maxL := 3) (ret := (some .int)) (by decide) rfl ?_
  intro p e s m args below meth c s₁ B hml hv
  obtain ⟨rfl, hsz, hP, hK, hD0, hN⟩ := hv
  have hx := B.exec
  have hb := B.bytes
  have hr := B.returns
  have hts := atoms_spec (ws := wsX11_feed) B.pre
  have hown : s.vm.findClass RX11 = some m.cls := findClass_of_methodNamed B.named
  have hlocks := B.notSynchronized
  subst hsz
  have hD := hD0.self (sz := s.heap.size)
  generalize hAe : va_A [(h0, .inr (11, [.ref a0, .ref a1, .ref a2, .ref a3, .ref a4, .ref a5, .int 0, .ref a7, .ref a8, .ref a9, .ref a10, .ref a11, .ref a12])), (a0, .inr (9, [.ref b0, .int 0])), (b0, .inl (cy 1, 80, .inl (fun _ => 0)))] s.heap.size = A at hD ⊢
  have hA : ∀ q : Nat, s.heap.size ≤ q → A q := fun q h => by rw [← hAe]; exact Or.inr h
  have hS : va_S A s.heap s.heap [] := va_S.rf
  have hl := lv_entry ([.ref h0, .int 1, .int p0]) (n := 3) (Nat.le_of_ble_eq_true rfl)
  rw [lg_entry_eq]
  generalize (lg_sl ([.ref h0, .int 1, .int p0]) ++ List.replicate (3 - (lg_sl ([.ref h0, .int 1, .int p0])).length) Slot.unset).toArray = ls at hl ⊢
  have hl : lv_has ls 3 [(0, .ref h0), (1, .int 1), (2, .int p0)] := hl
  refine lv_iload_n hx hb dX11_feed_0 rfl (lv_at hl 1 rfl) ?_
  refine lv_iconst (v := 1) hx hb dX11_feed_1 (by decide) ?_
  refine lv_icmp_lt (tgt := 10) hx hb dX11_feed_2 (by decide) (fun c_1 => absurd c_1 (by decide)) (fun _ => ?_)
  refine lv_iload_n hx hb dX11_feed_5 rfl (lv_at hl 1 rfl) ?_
  refine lv_iconst (v := 4) hx hb dX11_feed_6 (by decide) ?_
  refine lv_icmp_le (tgt := 12) hx hb dX11_feed_7 (by decide) (fun _ => ?_) (fun c_2 => absurd c_2 (by decide))
  refine lv_aload_n hx hb dX11_feed_12 rfl (lv_at hl 0 rfl) ?_
  change W _ _ _ _ _ _ _ _ _ _ _ _ _ _ _ (F0 m 13 ls [.ref h0])
  refine va_get (D := (dC, dI)) (ci := 11) (v := .ref a0) (C := RX11) (T := TX11) (N := 13) hx hb hts (fun _ h9 => List.mem_cons_of_mem _ (List.mem_append_left _ (List.mem_append_right _ h9))) hown hK hP 0 rfl rfl 0 (by decide) (hts (.fieldLink RX11 10 "SeatsRound" "tape" "LSeatsRound$Tape;") (List.mem_of_getElem? (i := 1) rfl)) (fun _ h9 => h9) rfl dX11_feed_13 ?_
  refine va_get (D := (dC, dI)) (ci := 9) (v := .int 0) (C := RX9) (T := TX9) (N := 2) hx hb hts (fun _ h9 => List.mem_cons_of_mem _ (List.mem_append_right _ h9)) hown hK hP 1 rfl rfl 1 (by decide) (hts (.fieldLink RX11 102 "SeatsRound$Tape" "length" "I") (List.mem_of_getElem? (i := 2) rfl)) (fun _ h9 => h9) rfl dX11_feed_16 ?_
  refine lv_iload_n hx hb dX11_feed_19 rfl (lv_at hl 1 rfl) ?_
  refine lv_iadd hx hb dX11_feed_20 ?_
  refine lv_topi (fun f_3 ef_3 => ?_)
  obtain rfl : f_3 = 1 := ef_3.trans (by decide)
  refine lv_bipush (v := 80) hx hb dX11_feed_21 (by decide) ?_
  refine lv_icmp_le (tgt := 29) hx hb dX11_feed_23 (by decide) (fun _ => ?_) (fun c_4 => absurd c_4 (by decide))
  refine lv_aload_n hx hb dX11_feed_29 rfl (lv_at hl 0 rfl) ?_
  refine va_get (D := (dC, dI)) (ci := 11) (v := .ref a0) (C := RX11) (T := TX11) (N := 13) hx hb hts (fun _ h9 => List.mem_cons_of_mem _ (List.mem_append_left _ (List.mem_append_right _ h9))) hown hK hP 0 rfl rfl 0 (by decide) (hts (.fieldLink RX11 10 "SeatsRound" "tape" "LSeatsRound$Tape;") (List.mem_of_getElem? (i := 1) rfl)) (fun _ h9 => h9) rfl dX11_feed_30 ?_
  change W _ _ _ _ _ _ _ _ _ _ _ _ _ _ _ (F0 m 33 ls [.ref a0])
  refine lv_iload_n hx hb dX11_feed_33 rfl (lv_at hl 1 rfl) ?_
  refine lv_iload_n hx hb dX11_feed_34 rfl (lv_at hl 2 rfl) ?_
  have hPc := hP.sub (ws' := [(a0, .inr (9, [.ref b0, .int 0])), (b0, .inl (cy 1, 80, .inl (fun _ => 0)))]) [1, 2] rfl
  have hDc := hD.sub (ws' := [(a0, .inr (9, [.ref b0, .int 0])), (b0, .inl (cy 1, 80, .inl (fun _ => 0)))]) [1, 2] (by decide) rfl
  have hFc := va_free (wc := [(a0, .inr (9, [.ref b0, .int 0])), (b0, .inl (cy 1, 80, .inl (fun _ => 0)))]) hD hS hA [1, 2] rfl
  refine va_callv (va_runV (As := [.int 1, .int p0]) (rest := []) ⟨hx, hb, hml, hown, hts⟩ (c_append_1 l dC dI cy a0 b0 p0 s.heap.size) (cwV 2 hts gX11_feed_X9_append rfl rfl rfl (by decide +kernel) ⟨Nat.le_of_ble_eq_true rfl, Nat.le_of_ble_eq_true rfl⟩) (wp_V hK hN hPc hDc (va_recv hK hPc (ci := 9) (q0 := 0) rfl rfl)) rfl rfl hl.1 rfl (lv_room (Nat.le_of_ble_eq_true rfl)) dX11_feed_35 ⟨Nat.le_of_ble_eq_true rfl, Nat.le_of_ble_eq_true rfl⟩) hS (fun q _ h => hFc q h) hFc (fun u_5 t H1 locs ht hvm hw_5 hB hz1 hk1 hS => ?_)
  obtain ⟨hP1, hD1⟩ := hB
  rw [ht] at hP1
  obtain ⟨hP, hD⟩ := va_join (wr := [(h0, .inr (11, [.ref a0, .ref a1, .ref a2, .ref a3, .ref a4, .ref a5, .int 0, .ref a7, .ref a8, .ref a9, .ref a10, .ref a11, .ref a12]))]) (w1 := [(a0, .inr (9, [.ref b0, .int 1])), (b0, .inl (cy 1, 80, .inl u_5))]) hP hD [1, 2] [0] rfl rfl (by decide) (by decide) hk1 hFc hP1 hD1
  generalize H1 = H at hP hS ⊢
  have hP : va_P (dC, dI) vwCl [(h0, .inr (11, [.ref a0, .ref a1, .ref a2, .ref a3, .ref a4, .ref a5, .int 0, .ref a7, .ref a8, .ref a9, .ref a10, .ref a11, .ref a12])), (a0, .inr (9, [.ref b0, .int 1])), (b0, .inl (cy 1, 80, .inl u_5))] H := hP
  have hD : va_D A [(h0, .inr (11, [.ref a0, .ref a1, .ref a2, .ref a3, .ref a4, .ref a5, .int 0, .ref a7, .ref a8, .ref a9, .ref a10, .ref a11, .ref a12])), (a0, .inr (9, [.ref b0, .int 1])), (b0, .inl (cy 1, 80, .inl u_5))] := hD
  refine lv_aload_n hx hb dX11_feed_38 rfl (lv_at hl 0 rfl) ?_
  refine va_get (D := (dC, dI)) (ci := 11) (v := .ref a0) (C := RX11) (T := TX11) (N := 13) hx hb hts (fun _ h9 => List.mem_cons_of_mem _ (List.mem_append_left _ (List.mem_append_right _ h9))) hown hK hP 0 rfl rfl 0 (by decide) (hts (.fieldLink RX11 10 "SeatsRound" "tape" "LSeatsRound$Tape;") (List.mem_of_getElem? (i := 1) rfl)) (fun _ h9 => h9) rfl dX11_feed_39 ?_
  refine va_get (D := (dC, dI)) (ci := 9) (v := .int 1) (C := RX9) (T := TX9) (N := 2) hx hb hts (fun _ h9 => List.mem_cons_of_mem _ (List.mem_append_right _ h9)) hown hK hP 1 rfl rfl 1 (by decide) (hts (.fieldLink RX11 102 "SeatsRound$Tape" "length" "I") (List.mem_of_getElem? (i := 2) rfl)) (fun _ h9 => h9) rfl dX11_feed_42 ?_
  exact W.iret (v := 1) hx hb hr (fun t ht hW => ⟨⟨1, (), rfl, (by first | rfl | (exfalso; omega)), trivial⟩, hS.F ht⟩) hS.2.2 dX11_feed_45
set_option maxHeartbeats 4000000 in
set_option maxRecDepth 100000 in
theorem c_feed_2 (l : Launch) (dC : Nat → ClassId) (dI : Nat → Nat → Nat) (cy : Nat → ClassId) (h0 : Nat) (a0 : Nat) (a1 : Nat) (a2 : Nat) (a3 : Nat) (a4 : Nat) (a5 : Nat) (a7 : Nat) (a8 : Nat) (a9 : Nat) (a10 : Nat) (a11 : Nat) (a12 : Nat) (b0 : Nat) (p0 : Int32) (sz : Nat)  : Met l yX11_feed wsX11_feed ({ frames := 2, cells := 0, slots := 0, locals := 46 }) (va_Pc [.ref h0, .int 2, .int p0] (wPre (dC, dI) cy [(h0, .inr (11, [.ref a0, .ref a1, .ref a2, .ref a3, .ref a4, .ref a5, .int 0, .ref a7, .ref a8, .ref a9, .ref a10, .ref a11, .ref a12])), (a0, .inr (9, [.ref b0, .int 0])), (b0, .inl (cy 1, 80, .inl (fun _ => 0)))] sz)) (va_Qi (fun (r : Int32) (u : Unit) => r = 2) (fun (u : Unit) t => True) (va_A [(h0, .inr (11, [.ref a0, .ref a1, .ref a2, .ref a3, .ref a4, .ref a5, .int 0, .ref a7, .ref a8, .ref a9, .ref a10, .ref a11, .ref a12])), (a0, .inr (9, [.ref b0, .int 0])), (b0, .inl (cy 1, 80, .inl (fun _ => 0)))] sz)) 0 0 (va_A [(h0, .inr (11, [.ref a0, .ref a1, .ref a2, .ref a3, .ref a4, .ref a5, .int 0, .ref a7, .ref a8, .ref a9, .ref a10, .ref a11, .ref a12])), (a0, .inr (9, [.ref b0, .int 0])), (b0, .inl (cy 1, 80, .inl (fun _ => 0)))] sz) := by
  refine Met.ofW (cc := cX11_feed) (maxL := 3) (ret := (some .int)) (by decide) rfl ?_
  intro p e s m args below meth c s₁ B hml hv
  obtain ⟨rfl, hsz, hP, hK, hD0, hN⟩ := hv
  have hx := B.exec
  have hb := B.bytes
  have hr := B.returns
  have hts := atoms_spec (ws := wsX11_feed) B.pre
  have hown : s.vm.findClass RX11 = some m.cls := findClass_of_methodNamed B.named
  have hlocks := B.notSynchronized
  subst hsz
  have hD := hD0.self (sz := s.heap.size)
  generalize hAe : va_A [(h0, .inr (11, [.ref a0, .ref a1, .ref a2, .ref a3, .ref a4, .ref a5, .int 0, .ref a7, .ref a8, .ref a9, .ref a10, .ref a11, .ref a12])), (a0, .inr (9, [.ref b0, .int 0])), (b0, .inl (cy 1, 80, .inl (fun _ => 0)))] s.heap.size = A at hD ⊢
  have hA : ∀ q : Nat, s.heap.size ≤ q → A q := fun q h => by rw [← hAe]; exact Or.inr h
  have hS : va_S A s.heap s.heap [] := va_S.rf
  have hl := lv_entry ([.ref h0, .int 2, .int p0]) (n := 3) (Nat.le_of_ble_eq_true rfl)
  rw [lg_entry_eq]
  generalize (lg_sl ([.ref h0, .int 2, .int p0]) ++ List.replicate (3 - (lg_sl ([.ref h0, .int 2, .int p0])).length) Slot.unset).toArray = ls at hl ⊢
  have hl : lv_has ls 3 [(0, .ref h0), (1, .int 2), (2, .int p0)] := hl
  refine lv_iload_n hx hb dX11_feed_0 rfl (lv_at hl 1 rfl) ?_
  refine lv_iconst (v := 1) hx hb dX11_feed_1 (by decide) ?_
  refine lv_icmp_lt (tgt := 10) hx hb dX11_feed_2 (by decide) (fun c_1 => absurd c_1 (by decide)) (fun _ => ?_)
  refine lv_iload_n hx hb dX11_feed_5 rfl (lv_at hl 1 rfl) ?_
  refine lv_iconst (v := 4) hx hb dX11_feed_6 (by decide) ?_
  change W _ _ _ _ _ _ _ _ _ _ _ _ _ _ _ (F0 m 7 ls [.int 4, .int 2])
  refine lv_icmp_le (tgt := 12) hx hb dX11_feed_7 (by decide) (fun _ => ?_) (fun c_2 => absurd c_2 (by decide))
  refine lv_aload_n hx hb dX11_feed_12 rfl (lv_at hl 0 rfl) ?_
  refine va_get (D := (dC, dI)) (ci := 11) (v := .ref a0) (C := RX11) (T := TX11) (N := 13) hx hb hts (fun _ h9 => List.mem_cons_of_mem _ (List.mem_append_left _ (List.mem_append_right _ h9))) hown hK hP 0 rfl rfl 0 (by decide) (hts (.fieldLink RX11 10 "SeatsRound" "tape" "LSeatsRound$Tape;") (List.mem_of_getElem? (i := 1) rfl)) (fun _ h9 => h9) rfl dX11_feed_13 ?_
  refine va_get (D := (dC, dI)) (ci := 9) (v := .int 0) (C := RX9) (T := TX9) (N := 2) hx hb hts (fun _ h9 => List.mem_cons_of_mem _ (List.mem_append_right _ h9)) hown hK hP 1 rfl rfl 1 (by decide) (hts (.fieldLink RX11 102 "SeatsRound$Tape" "length" "I") (List.mem_of_getElem? (i := 2) rfl)) (fun _ h9 => h9) rfl dX11_feed_16 ?_
  refine lv_iload_n hx hb dX11_feed_19 rfl (lv_at hl 1 rfl) ?_
  refine lv_iadd hx hb dX11_feed_20 ?_
  refine lv_topi (fun f_3 ef_3 => ?_)
  obtain rfl : f_3 = 2 := ef_3.trans (by decide)
  refine lv_bipush (v := 80) hx hb dX11_feed_21 (by decide) ?_
  refine lv_icmp_le (tgt := 29) hx hb dX11_feed_23 (by decide) (fun _ => ?_) (fun c_4 => absurd c_4 (by decide))
  change W _ _ _ _ _ _ _ _ _ _ _ _ _ _ _ (F0 m 29 ls [])
  refine lv_aload_n hx hb dX11_feed_29 rfl (lv_at hl 0 rfl) ?_
  refine va_get (D := (dC, dI)) (ci := 11) (v := .ref a0) (C := RX11) (T := TX11) (N := 13) hx hb hts (fun _ h9 => List.mem_cons_of_mem _ (List.mem_append_left _ (List.mem_append_right _ h9))) hown hK hP 0 rfl rfl 0 (by decide) (hts (.fieldLink RX11 10 "SeatsRound" "tape" "LSeatsRound$Tape;") (List.mem_of_getElem? (i := 1) rfl)) (fun _ h9 => h9) rfl dX11_feed_30 ?_
  refine lv_iload_n hx hb dX11_feed_33 rfl (lv_at hl 1 rfl) ?_
  refine lv_iload_n hx hb dX11_feed_34 rfl (lv_at hl 2 rfl) ?_
  have hPc := hP.sub (ws' := [(a0, .inr (9, [.ref b0, .int 0])), (b0, .inl (cy 1, 80, .inl (fun _ => 0)))]) [1, 2] rfl
  have hDc := hD.sub (ws' := [(a0, .inr (9, [.ref b0, .int 0])), (b0, .inl (cy 1, 80, .inl (fun _ => 0)))]) [1, 2] (by decide) rfl
  have hFc := va_free (wc := [(a0, .inr (9, [.ref b0, .int 0])), (b0, .inl (cy 1, 80, .inl (fun _ => 0)))]) hD hS hA [1, 2] rfl
  refine va_callv (va_runV (As := [.int 2, .int p0]) (rest := []) ⟨hx, hb, hml, hown, hts⟩ (c_append_2 l dC dI cy a0 b0 p0 s.heap.size) (cwV 2 hts gX11_feed_X9_append rfl rfl rfl (by decide +kernel) ⟨Nat.le_of_ble_eq_true rfl, Nat.le_of_ble_eq_true rfl⟩) (wp_V hK hN hPc hDc (va_recv hK hPc (ci := 9) (q0 := 0) rfl rfl)) rfl rfl hl.1 rfl (lv_room (Nat.le_of_ble_eq_true rfl)) dX11_feed_35 ⟨Nat.le_of_ble_eq_true rfl, Nat.le_of_ble_eq_true rfl⟩) hS (fun q _ h => hFc q h) hFc (fun u_5 t H1 locs ht hvm hw_5 hB hz1 hk1 hS => ?_)
  obtain ⟨hP1, hD1⟩ := hB
  rw [ht] at hP1
  obtain ⟨hP, hD⟩ := va_join (wr := [(h0, .inr (11, [.ref a0, .ref a1, .ref a2, .ref a3, .ref a4, .ref a5, .int 0, .ref a7, .ref a8, .ref a9, .ref a10, .ref a11, .ref a12]))]) (w1 := [(a0, .inr (9, [.ref b0, .int 2])), (b0, .inl (cy 1, 80, .inl u_5))]) hP hD [1, 2] [0] rfl rfl (by decide) (by decide) hk1 hFc hP1 hD1
  generalize H1 = H at hP hS ⊢
  have hP : va_P (dC, dI) vwCl [(h0, .inr (11, [.ref a0, .ref a1, .ref a2, .ref a3, .ref a4, .ref a5, .int 0, .ref a7, .ref a8, .ref a9, .ref a10, .ref a11, .ref a12])), (a0, .inr (9, [.ref b0, .int 2])), (b0, .inl (cy 1, 80, .inl u_5))] H := hP
  have hD : va_D A [(h0, .inr (11, [.ref a0, .ref a1, .ref a2, .ref a3, .ref a4, .ref a5, .int 0, .ref a7, .ref a8, .ref a9, .ref a10, .ref a11, .ref a12])), (a0, .inr (9, [.ref b0, .int 2])), (b0, .inl (cy 1, 80, .inl u_5))] := hD
  refine lv_aload_n hx hb dX11_feed_38 rfl (lv_at hl 0 rfl) ?_
  refine va_get (D := (dC, dI)) (ci := 11) (v := .ref a0) (C := RX11) (T := TX11) (N := 13) hx hb hts (fun _ h9 => List.mem_cons_of_mem _ (List.mem_append_left _ (List.mem_append_right _ h9))) hown hK hP 0 rfl rfl 0 (by decide) (hts (.fieldLink RX11 10 "SeatsRound" "tape" "LSeatsRound$Tape;") (List.mem_of_getElem? (i := 1) rfl)) (fun _ h9 => h9) rfl dX11_feed_39 ?_
  refine va_get (D := (dC, dI)) (ci := 9) (v := .int 2) (C := RX9) (T := TX9) (N := 2) hx hb hts (fun _ h9 => List.mem_cons_of_mem _ (List.mem_append_right _ h9)) hown hK hP 1 rfl rfl 1 (by decide) (hts (.fieldLink RX11 102 "SeatsRound$Tape" "length" "I") (List.mem_of_getElem? (i := 2) rfl)) (fun _ h9 => h9) rfl dX11_feed_42 ?_
  change W _ _ _ _ _ _ _ _ _ _ _ _ _ _ _ (F0 m 45 ls [.int 2])
  exact W.iret (v := 2) hx hb hr (fun t ht hW => ⟨⟨2, (), rfl, (by first | rfl | (exfalso; omega)), trivial⟩, hS.F ht⟩) hS.2.2 dX11_feed_45
set_option maxHeartbeats 4000000 in
set_option maxRecDepth 100000 in
theorem c_feed_3 (l : Launch) (dC : Nat → ClassId) (dI : Nat → Nat → Nat) (cy : Nat → ClassId) (h0 : Nat) (a0 : Nat) (a1 : Nat) (a2 : Nat) (a3 : Nat) (a4 : Nat) (a5 : Nat) (a7 : Nat) (a8 : Nat) (a9 : Nat) (a10 : Nat) (a11 : Nat) (a12 : Nat) (b0 : Nat) (p0 : Int32) (sz : Nat)  : Met l yX11_feed wsX11_feed ({ frames := 2, cells := 0, slots := 0, locals := 46 }) (va_Pc [.ref h0, .int 3, .int p0] (wPre (dC, dI) cy [(h0, .inr (11, [.ref a0, .ref a1, .ref a2, .ref a3, .ref a4, .ref a5, .int 0, .ref a7, .ref a8, .ref a9, .ref a10, .ref a11, .ref a12])), (a0, .inr (9, [.ref b0, .int 0])), (b0, .inl (cy 1, 80, .inl (fun _ => 0)))] sz)) (va_Qi (fun (r : Int32) (u : Unit) => r = 3) (fun (u : Unit) t => True) (va_A [(h0, .inr (11, [.ref a0, .ref a1, .ref a2, .ref a3, .ref a4, .ref a5, .int 0, .ref a7, .ref a8, .ref a9, .ref a10, .ref a11, .ref a12])), (a0, .inr (9, [.ref b0, .int 0])), (b0, .inl (cy 1, 80, .inl (fun _ => 0)))] sz)) 0 0 (va_A [(h0, .inr (11, [.ref a0, .ref a1, .ref a2, .ref a3, .ref a4, .ref a5, .int 0, .ref a7, .ref a8, .ref a9, .ref a10, .ref a11, .ref a12])), (a0, .inr (9, [.ref b0, .int 0])), (b0, .inl (cy 1, 80, .inl (fun _ => 0)))] sz) := by
  refine Met.ofW (cc := cX11_feed) (maxL := 3) (ret := (some .int)) (by decide) rfl ?_
  intro p e s m args below meth c s₁ B hml hv
  obtain ⟨rfl, hsz, hP, hK, hD0, hN⟩ := hv
  have hx := B.exec
  have hb := B.bytes
  have hr := B.returns
  have hts := atoms_spec (ws := wsX11_feed) B.pre
  have hown : s.vm.findClass RX11 = some m.cls := findClass_of_methodNamed B.named
  have hlocks := B.notSynchronized
  subst hsz
  have hD := hD0.self (sz := s.heap.size)
  generalize hAe : va_A [(h0, .inr (11, [.ref a0, .ref a1, .ref a2, .ref a3, .ref a4, .ref a5, .int 0, .ref a7, .ref a8, .ref a9, .ref a10, .ref a11, .ref a12])), (a0, .inr (9, [.ref b0, .int 0])), (b0, .inl (cy 1, 80, .inl (fun _ => 0)))] s.heap.size = A at hD ⊢
  have hA : ∀ q : Nat, s.heap.size ≤ q → A q := fun q h => by rw [← hAe]; exact Or.inr h
  have hS : va_S A s.heap s.heap [] := va_S.rf
  have hl := lv_entry ([.ref h0, .int 3, .int p0]) (n := 3) (Nat.le_of_ble_eq_true rfl)
  rw [lg_entry_eq]
  generalize (lg_sl ([.ref h0, .int 3, .int p0]) ++ List.replicate (3 - (lg_sl ([.ref h0, .int 3, .int p0])).length) Slot.unset).toArray = ls at hl ⊢
  have hl : lv_has ls 3 [(0, .ref h0), (1, .int 3), (2, .int p0)] := hl
  refine lv_iload_n hx hb dX11_feed_0 rfl (lv_at hl 1 rfl) ?_
  refine lv_iconst (v := 1) hx hb dX11_feed_1 (by decide) ?_
  refine lv_icmp_lt (tgt := 10) hx hb dX11_feed_2 (by decide) (fun c_1 => absurd c_1 (by decide)) (fun _ => ?_)
  change W _ _ _ _ _ _ _ _ _ _ _ _ _ _ _ (F0 m 5 ls [])
  refine lv_iload_n hx hb dX11_feed_5 rfl (lv_at hl 1 rfl) ?_
  refine lv_iconst (v := 4) hx hb dX11_feed_6 (by decide) ?_
  refine lv_icmp_le (tgt := 12) hx hb dX11_feed_7 (by decide) (fun _ => ?_) (fun c_2 => absurd c_2 (by decide))
  refine lv_aload_n hx hb dX11_feed_12 rfl (lv_at hl 0 rfl) ?_
  refine va_get (D := (dC, dI)) (ci := 11) (v := .ref a0) (C := RX11) (T := TX11) (N := 13) hx hb hts (fun _ h9 => List.mem_cons_of_mem _ (List.mem_append_left _ (List.mem_append_right _ h9))) hown hK hP 0 rfl rfl 0 (by decide) (hts (.fieldLink RX11 10 "SeatsRound" "tape" "LSeatsRound$Tape;") (List.mem_of_getElem? (i := 1) rfl)) (fun _ h9 => h9) rfl dX11_feed_13 ?_
  refine va_get (D := (dC, dI)) (ci := 9) (v := .int 0) (C := RX9) (T := TX9) (N := 2) hx hb hts (fun _ h9 => List.mem_cons_of_mem _ (List.mem_append_right _ h9)) hown hK hP 1 rfl rfl 1 (by decide) (hts (.fieldLink RX11 102 "SeatsRound$Tape" "length" "I") (List.mem_of_getElem? (i := 2) rfl)) (fun _ h9 => h9) rfl dX11_feed_16 ?_
  refine lv_iload_n hx hb dX11_feed_19 rfl (lv_at hl 1 rfl) ?_
  refine lv_iadd hx hb dX11_feed_20 ?_
  refine lv_topi (fun f_3 ef_3 => ?_)
  obtain rfl : f_3 = 3 := ef_3.trans (by decide)
  change W _ _ _ _ _ _ _ _ _ _ _ _ _ _ _ (F0 m 21 ls [.int 3])
  refine lv_bipush (v := 80) hx hb dX11_feed_21 (by decide) ?_
  refine lv_icmp_le (tgt := 29) hx hb dX11_feed_23 (by decide) (fun _ => ?_) (fun c_4 => absurd c_4 (by decide))
  refine lv_aload_n hx hb dX11_feed_29 rfl (lv_at hl 0 rfl) ?_
  refine va_get (D := (dC, dI)) (ci := 11) (v := .ref a0) (C := RX11) (T := TX11) (N := 13) hx hb hts (fun _ h9 => List.mem_cons_of_mem _ (List.mem_append_left _ (List.mem_append_right _ h9))) hown hK hP 0 rfl rfl 0 (by decide) (hts (.fieldLink RX11 10 "SeatsRound" "tape" "LSeatsRound$Tape;") (List.mem_of_getElem? (i := 1) rfl)) (fun _ h9 => h9) rfl dX11_feed_30 ?_
  refine lv_iload_n hx hb dX11_feed_33 rfl (lv_at hl 1 rfl) ?_
  refine lv_iload_n hx hb dX11_feed_34 rfl (lv_at hl 2 rfl) ?_
  have hPc := hP.sub (ws' := [(a0, .inr (9, [.ref b0, .int 0])), (b0, .inl (cy 1, 80, .inl (fun _ => 0)))]) [1, 2] rfl
  have hDc := hD.sub (ws' := [(a0, .inr (9, [.ref b0, .int 0])), (b0, .inl (cy 1, 80, .inl (fun _ => 0)))]) [1, 2] (by decide) rfl
  have hFc := va_free (wc := [(a0, .inr (9, [.ref b0, .int 0])), (b0, .inl (cy 1, 80, .inl (fun _ => 0)))]) hD hS hA [1, 2] rfl
  refine va_callv (va_runV (As := [.int 3, .int p0]) (rest := []) ⟨hx, hb, hml, hown, hts⟩ (c_append_3 l dC dI cy a0 b0 p0 s.heap.size) (cwV 2 hts gX11_feed_X9_append rfl rfl rfl (by decide +kernel) ⟨Nat.le_of_ble_eq_true rfl, Nat.le_of_ble_eq_true rfl⟩) (wp_V hK hN hPc hDc (va_recv hK hPc (ci := 9) (q0 := 0) rfl rfl)) rfl rfl hl.1 rfl (lv_room (Nat.le_of_ble_eq_true rfl)) dX11_feed_35 ⟨Nat.le_of_ble_eq_true rfl, Nat.le_of_ble_eq_true rfl⟩) hS (fun q _ h => hFc q h) hFc (fun u_5 t H1 locs ht hvm hw_5 hB hz1 hk1 hS => ?_)
  obtain ⟨hP1, hD1⟩ := hB
  rw [ht] at hP1
  obtain ⟨hP, hD⟩ := va_join (wr := [(h0, .inr (11, [.ref a0, .ref a1, .ref a2, .ref a3, .ref a4, .ref a5, .int 0, .ref a7, .ref a8, .ref a9, .ref a10, .ref a11, .ref a12]))]) (w1 := [(a0, .inr (9, [.ref b0, .int 3])), (b0, .inl (cy 1, 80, .inl u_5))]) hP hD [1, 2] [0] rfl rfl (by decide) (by decide) hk1 hFc hP1 hD1
  generalize H1 = H at hP hS ⊢
  have hP : va_P (dC, dI) vwCl [(h0, .inr (11, [.ref a0, .ref a1, .ref a2, .ref a3, .ref a4, .ref a5, .int 0, .ref a7, .ref a8, .ref a9, .ref a10, .ref a11, .ref a12])), (a0, .inr (9, [.ref b0, .int 3])), (b0, .inl (cy 1, 80, .inl u_5))] H := hP
  have hD : va_D A [(h0, .inr (11, [.ref a0, .ref a1, .ref a2, .ref a3, .ref a4, .ref a5, .int 0, .ref a7, .ref a8, .ref a9, .ref a10, .ref a11, .ref a12])), (a0, .inr (9, [.ref b0, .int 3])), (b0, .inl (cy 1, 80, .inl u_5))] := hD
  refine lv_aload_n hx hb dX11_feed_38 rfl (lv_at hl 0 rfl) ?_
  change W _ _ _ _ _ _ _ _ _ _ _ _ _ _ _ (F0 m 39 ls [.ref h0])
  refine va_get (D := (dC, dI)) (ci := 11) (v := .ref a0) (C := RX11) (T := TX11) (N := 13) hx hb hts (fun _ h9 => List.mem_cons_of_mem _ (List.mem_append_left _ (List.mem_append_right _ h9))) hown hK hP 0 rfl rfl 0 (by decide) (hts (.fieldLink RX11 10 "SeatsRound" "tape" "LSeatsRound$Tape;") (List.mem_of_getElem? (i := 1) rfl)) (fun _ h9 => h9) rfl dX11_feed_39 ?_
  refine va_get (D := (dC, dI)) (ci := 9) (v := .int 3) (C := RX9) (T := TX9) (N := 2) hx hb hts (fun _ h9 => List.mem_cons_of_mem _ (List.mem_append_right _ h9)) hown hK hP 1 rfl rfl 1 (by decide) (hts (.fieldLink RX11 102 "SeatsRound$Tape" "length" "I") (List.mem_of_getElem? (i := 2) rfl)) (fun _ h9 => h9) rfl dX11_feed_42 ?_
  exact W.iret (v := 3) hx hb hr (fun t ht hW => ⟨⟨3, (), rfl, (by first | rfl | (exfalso; omega)), trivial⟩, hS.F ht⟩) hS.2.2 dX11_feed_45
set_option maxHeartbeats 4000000 in
set_option maxRecDepth 100000 in
theorem c_feed_4 (l : Launch) (dC : Nat → ClassId) (dI : Nat → Nat → Nat) (cy : Nat → ClassId) (h0 : Nat) (a0 : Nat) (a1 : Nat) (a2 : Nat) (a3 : Nat) (a4 : Nat) (a5 : Nat) (a7 : Nat) (a8 : Nat) (a9 : Nat) (a10 : Nat) (a11 : Nat) (a12 : Nat) (b0 : Nat) (p0 : Int32) (sz : Nat)  : Met l yX11_feed wsX11_feed ({ frames := 2, cells := 0, slots := 0, locals := 46 }) (va_Pc [.ref h0, .int 4, .int p0] (wPre (dC, dI) cy [(h0, .inr (11, [.ref a0, .ref a1, .ref a2, .ref a3, .ref a4, .ref a5, .int 0, .ref a7, .ref a8, .ref a9, .ref a10, .ref a11, .ref a12])), (a0, .inr (9, [.ref b0, .int 0])), (b0, .inl (cy 1, 80, .inl (fun _ => 0)))] sz)) (va_Qi (fun (r : Int32) (u : Unit) => r = 4) (fun (u : Unit) t => True) (va_A [(h0, .inr (11, [.ref a0, .ref a1, .ref a2, .ref a3, .ref a4, .ref a5, .int 0, .ref a7, .ref a8, .ref a9, .ref a10, .ref a11, .ref a12])), (a0, .inr (9, [.ref b0, .int 0])), (b0, .inl (cy 1, 80, .inl (fun _ => 0)))] sz)) 0 0 (va_A [(h0, .inr (11, [.ref a0, .ref a1, .ref a2, .ref a3, .ref a4, .ref a5, .int 0, .ref a7, .ref a8, .ref a9, .ref a10, .ref a11, .ref a12])), (a0, .inr (9, [.ref b0, .int 0])), (b0, .inl (cy 1, 80, .inl (fun _ => 0)))] sz) := by
  refine Met.ofW (cc := cX11_feed) (maxL := 3) (ret := (some .int)) (by decide) rfl ?_
  intro p e s m args below meth c s₁ B hml hv
  obtain ⟨rfl, hsz, hP, hK, hD0, hN⟩ := hv
  have hx := B.exec
  have hb := B.bytes
  have hr := B.returns
  have hts := atoms_spec (ws := wsX11_feed) B.pre
  have hown : s.vm.findClass RX11 = some m.cls := findClass_of_methodNamed B.named
  have hlocks := B.notSynchronized
  subst hsz
  have hD := hD0.self (sz := s.heap.size)
  generalize hAe : va_A [(h0, .inr (11, [.ref a0, .ref a1, .ref a2, .ref a3, .ref a4, .ref a5, .int 0, .ref a7, .ref a8, .ref a9, .ref a10, .ref a11, .ref a12])), (a0, .inr (9, [.ref b0, .int 0])), (b0, .inl (cy 1, 80, .inl (fun _ => 0)))] s.heap.size = A at hD ⊢
  have hA : ∀ q : Nat, s.heap.size ≤ q → A q := fun q h => by rw [← hAe]; exact Or.inr h
  have hS : va_S A s.heap s.heap [] := va_S.rf
  have hl := lv_entry ([.ref h0, .int 4, .int p0]) (n := 3) (Nat.le_of_ble_eq_true rfl)
  rw [lg_entry_eq]
  generalize (lg_sl ([.ref h0, .int 4, .int p0]) ++ List.replicate (3 - (lg_sl ([.ref h0, .int 4, .int p0])).length) Slot.unset).toArray = ls at hl ⊢
  have hl : lv_has ls 3 [(0, .ref h0), (1, .int 4), (2, .int p0)] := hl
  refine lv_iload_n hx hb dX11_feed_0 rfl (lv_at hl 1 rfl) ?_
  change W _ _ _ _ _ _ _ _ _ _ _ _ _ _ _ (F0 m 1 ls [.int 4])
  refine lv_iconst (v := 1) hx hb dX11_feed_1 (by decide) ?_
  refine lv_icmp_lt (tgt := 10) hx hb dX11_feed_2 (by decide) (fun c_1 => absurd c_1 (by decide)) (fun _ => ?_)
  refine lv_iload_n hx hb dX11_feed_5 rfl (lv_at hl 1 rfl) ?_
  refine lv_iconst (v := 4) hx hb dX11_feed_6 (by decide) ?_
  refine lv_icmp_le (tgt := 12) hx hb dX11_feed_7 (by decide) (fun _ => ?_) (fun c_2 => absurd c_2 (by decide))
  refine lv_aload_n hx hb dX11_feed_12 rfl (lv_at hl 0 rfl) ?_
  refine va_get (D := (dC, dI)) (ci := 11) (v := .ref a0) (C := RX11) (T := TX11) (N := 13) hx hb hts (fun _ h9 => List.mem_cons_of_mem _ (List.mem_append_left _ (List.mem_append_right _ h9))) hown hK hP 0 rfl rfl 0 (by decide) (hts (.fieldLink RX11 10 "SeatsRound" "tape" "LSeatsRound$Tape;") (List.mem_of_getElem? (i := 1) rfl)) (fun _ h9 => h9) rfl dX11_feed_13 ?_
  refine va_get (D := (dC, dI)) (ci := 9) (v := .int 0) (C := RX9) (T := TX9) (N := 2) hx hb hts (fun _ h9 => List.mem_cons_of_mem _ (List.mem_append_right _ h9)) hown hK hP 1 rfl rfl 1 (by decide) (hts (.fieldLink RX11 102 "SeatsRound$Tape" "length" "I") (List.mem_of_getElem? (i := 2) rfl)) (fun _ h9 => h9) rfl dX11_feed_16 ?_
  change W _ _ _ _ _ _ _ _ _ _ _ _ _ _ _ (F0 m 19 ls [.int 0])
  refine lv_iload_n hx hb dX11_feed_19 rfl (lv_at hl 1 rfl) ?_
  refine lv_iadd hx hb dX11_feed_20 ?_
  refine lv_topi (fun f_3 ef_3 => ?_)
  obtain rfl : f_3 = 4 := ef_3.trans (by decide)
  refine lv_bipush (v := 80) hx hb dX11_feed_21 (by decide) ?_
  refine lv_icmp_le (tgt := 29) hx hb dX11_feed_23 (by decide) (fun _ => ?_) (fun c_4 => absurd c_4 (by decide))
  refine lv_aload_n hx hb dX11_feed_29 rfl (lv_at hl 0 rfl) ?_
  refine va_get (D := (dC, dI)) (ci := 11) (v := .ref a0) (C := RX11) (T := TX11) (N := 13) hx hb hts (fun _ h9 => List.mem_cons_of_mem _ (List.mem_append_left _ (List.mem_append_right _ h9))) hown hK hP 0 rfl rfl 0 (by decide) (hts (.fieldLink RX11 10 "SeatsRound" "tape" "LSeatsRound$Tape;") (List.mem_of_getElem? (i := 1) rfl)) (fun _ h9 => h9) rfl dX11_feed_30 ?_
  refine lv_iload_n hx hb dX11_feed_33 rfl (lv_at hl 1 rfl) ?_
  refine lv_iload_n hx hb dX11_feed_34 rfl (lv_at hl 2 rfl) ?_
  change W _ _ _ _ _ _ _ _ _ _ _ _ _ _ _ (F0 m 35 ls [.int p0, .int 4, .ref a0])
  have hPc := hP.sub (ws' := [(a0, .inr (9, [.ref b0, .int 0])), (b0, .inl (cy 1, 80, .inl (fun _ => 0)))]) [1, 2] rfl
  have hDc := hD.sub (ws' := [(a0, .inr (9, [.ref b0, .int 0])), (b0, .inl (cy 1, 80, .inl (fun _ => 0)))]) [1, 2] (by decide) rfl
  have hFc := va_free (wc := [(a0, .inr (9, [.ref b0, .int 0])), (b0, .inl (cy 1, 80, .inl (fun _ => 0)))]) hD hS hA [1, 2] rfl
  refine va_callv (va_runV (As := [.int 4, .int p0]) (rest := []) ⟨hx, hb, hml, hown, hts⟩ (c_append_4 l dC dI cy a0 b0 p0 s.heap.size) (cwV 2 hts gX11_feed_X9_append rfl rfl rfl (by decide +kernel) ⟨Nat.le_of_ble_eq_true rfl, Nat.le_of_ble_eq_true rfl⟩) (wp_V hK hN hPc hDc (va_recv hK hPc (ci := 9) (q0 := 0) rfl rfl)) rfl rfl hl.1 rfl (lv_room (Nat.le_of_ble_eq_true rfl)) dX11_feed_35 ⟨Nat.le_of_ble_eq_true rfl, Nat.le_of_ble_eq_true rfl⟩) hS (fun q _ h => hFc q h) hFc (fun u_5 t H1 locs ht hvm hw_5 hB hz1 hk1 hS => ?_)
  obtain ⟨hP1, hD1⟩ := hB
  rw [ht] at hP1
  obtain ⟨hP, hD⟩ := va_join (wr := [(h0, .inr (11, [.ref a0, .ref a1, .ref a2, .ref a3, .ref a4, .ref a5, .int 0, .ref a7, .ref a8, .ref a9, .ref a10, .ref a11, .ref a12]))]) (w1 := [(a0, .inr (9, [.ref b0, .int 4])), (b0, .inl (cy 1, 80, .inl u_5))]) hP hD [1, 2] [0] rfl rfl (by decide) (by decide) hk1 hFc hP1 hD1
  generalize H1 = H at hP hS ⊢
  have hP : va_P (dC, dI) vwCl [(h0, .inr (11, [.ref a0, .ref a1, .ref a2, .ref a3, .ref a4, .ref a5, .int 0, .ref a7, .ref a8, .ref a9, .ref a10, .ref a11, .ref a12])), (a0, .inr (9, [.ref b0, .int 4])), (b0, .inl (cy 1, 80, .inl u_5))] H := hP
  have hD : va_D A [(h0, .inr (11, [.ref a0, .ref a1, .ref a2, .ref a3, .ref a4, .ref a5, .int 0, .ref a7, .ref a8, .ref a9, .ref a10, .ref a11, .ref a12])), (a0, .inr (9, [.ref b0, .int 4])), (b0, .inl (cy 1, 80, .inl u_5))] := hD
  refine lv_aload_n hx hb dX11_feed_38 rfl (lv_at hl 0 rfl) ?_
  refine va_get (D := (dC, dI)) (ci := 11) (v := .ref a0) (C := RX11) (T := TX11) (N := 13) hx hb hts (fun _ h9 => List.mem_cons_of_mem _ (List.mem_append_left _ (List.mem_append_right _ h9))) hown hK hP 0 rfl rfl 0 (by decide) (hts (.fieldLink RX11 10 "SeatsRound" "tape" "LSeatsRound$Tape;") (List.mem_of_getElem? (i := 1) rfl)) (fun _ h9 => h9) rfl dX11_feed_39 ?_
  refine va_get (D := (dC, dI)) (ci := 9) (v := .int 4) (C := RX9) (T := TX9) (N := 2) hx hb hts (fun _ h9 => List.mem_cons_of_mem _ (List.mem_append_right _ h9)) hown hK hP 1 rfl rfl 1 (by decide) (hts (.fieldLink RX11 102 "SeatsRound$Tape" "length" "I") (List.mem_of_getElem? (i := 2) rfl)) (fun _ h9 => h9) rfl dX11_feed_42 ?_
  exact W.iret (v := 4) hx hb hr (fun t ht hW => ⟨⟨4, (), rfl, (by first | rfl | (exfalso; omega)), trivial⟩, hS.F ht⟩) hS.2.2 dX11_feed_45
set_option maxHeartbeats 4000000 in
set_option maxRecDepth 100000 in
theorem c_name (l : Launch) (dC : Nat → ClassId) (dI : Nat → Nat → Nat) (cy : Nat → ClassId) (h0 : Nat) (a0 : Nat) (a1 : Nat) (a2 : Nat) (a3 : Nat) (a4 : Nat) (a5 : Nat) (a7 : Nat) (a8 : Nat) (a9 : Nat) (a10 : Nat) (a11 : Nat) (a12 : Nat) (b0 : Nat) (sz : Nat)  : Met l yX11_name wsX11_name ({ frames := 1, cells := 0, slots := 0, locals := 23 }) (va_Pc [.ref h0] (wPre (dC, dI) cy [(h0, .inr (11, [.ref a0, .ref a1, .ref a2, .ref a3, .ref a4, .ref a5, .int 0, .ref a7, .ref a8, .ref a9, .ref a10, .ref a11, .ref a12])), (a0, .inr (9, [.ref b0, .int 0]))] sz)) (va_Qi (fun (r : Int32) (u : Unit) => r = -1) (fun (u : Unit) t => True) (va_A [(h0, .inr (11, [.ref a0, .ref a1, .ref a2, .ref a3, .ref a4, .ref a5, .int 0, .ref a7, .ref a8, .ref a9, .ref a10, .ref a11, .ref a12])), (a0, .inr (9, [.ref b0, .int 0]))] sz)) 0 0 (va_A [(h0, .inr (11, [.ref a0, .ref a1, .ref a2, .ref a3, .ref a4, .ref a5, .int 0, .ref a7, .ref a8, .ref a9, .ref a10, .ref a11, .ref a12])), (a0, .inr (9, [.ref b0, .int 0]))] sz) := by
  refine Met.ofW (cc := cX11_name) (maxL := 2) (ret := (some .int)) (by decide) rfl ?_
  intro p e s m args below meth c s₁ B hml hv
  obtain ⟨rfl, hsz, hP, hK, hD0, hN⟩ := hv
  have hx := B.exec
  have hb := B.bytes
  have hr := B.returns
  have hts := atoms_spec (ws := wsX11_name) B.pre
  have hown : s.vm.findClass RX11 = some m.cls := findClass_of_methodNamed B.named
  have hlocks := B.notSynchronized
  subst hsz
  have hD := hD0.self (sz := s.heap.size)
  generalize hAe : va_A [(h0, .inr (11, [.ref a0, .ref a1, .ref a2, .ref a3, .ref a4, .ref a5, .int 0, .ref a7, .ref a8, .ref a9, .ref a10, .ref a11, .ref a12])), (a0, .inr (9, [.ref b0, .int 0]))] s.heap.size = A at hD ⊢
  have hA : ∀ q : Nat, s.heap.size ≤ q → A q := fun q h => by rw [← hAe]; exact Or.inr h
  have hS : va_S A s.heap s.heap [] := va_S.rf
  have hl := lv_entry ([.ref h0]) (n := 2) (Nat.le_of_ble_eq_true rfl)
  rw [lg_entry_eq]
  generalize (lg_sl ([.ref h0]) ++ List.replicate (2 - (lg_sl ([.ref h0])).length) Slot.unset).toArray = ls at hl ⊢
  have hl : lv_has ls 2 [(0, .ref h0)] := hl
  refine lv_aload_n hx hb dX11_name_0 rfl (lv_at hl 0 rfl) ?_
  refine va_get (D := (dC, dI)) (ci := 11) (v := .ref a0) (C := RX11) (T := TX11) (N := 13) hx hb hts (fun _ h9 => List.mem_cons_of_mem _ (List.mem_append_left _ (List.mem_append_left _ (List.mem_append_right _ h9)))) hown hK hP 0 rfl rfl 0 (by decide) (hts (.fieldLink RX11 10 "SeatsRound" "tape" "LSeatsRound$Tape;") (List.mem_of_getElem? (i := 1) rfl)) (fun _ h9 => h9) rfl dX11_name_1 ?_
  refine va_get (D := (dC, dI)) (ci := 9) (v := .int 0) (C := RX9) (T := TX9) (N := 2) hx hb hts (fun _ h9 => List.mem_cons_of_mem _ (List.mem_append_left _ (List.mem_append_right _ h9))) hown hK hP 1 rfl rfl 1 (by decide) (hts (.fieldLink RX11 102 "SeatsRound$Tape" "length" "I") (List.mem_of_getElem? (i := 2) rfl)) (fun _ h9 => h9) rfl dX11_name_4 ?_
  refine lv_iconst (v := 1) hx hb dX11_name_7 (by decide) ?_
  refine lv_icmp_lt (tgt := 23) hx hb dX11_name_8 (by decide) (fun _ => ?_) (fun c_1 => absurd c_1 (by decide))
  refine lv_iconst (v := (-1)) hx hb dX11_name_23 (by decide) ?_
  change W _ _ _ _ _ _ _ _ _ _ _ _ _ _ _ (F0 m 24 ls [.int (-1)])
  exact W.iret (v := (-1)) hx hb hr (fun t ht hW => ⟨⟨(-1), (), rfl, (by first | rfl | (exfalso; omega)), trivial⟩, hS.F ht⟩) hS.2.2 dX11_name_24
set_option maxHeartbeats 4000000 in
set_option maxRecDepth 100000 in
theorem c_number (l : Launch) (dC : Nat → ClassId) (dI : Nat → Nat → Nat) (cy : Nat → ClassId) (h0 : Nat) (a0 : Nat) (a1 : Nat) (a2 : Nat) (a3 : Nat) (a4 : Nat) (a5 : Nat) (a7 : Nat) (a8 : Nat) (a9 : Nat) (a10 : Nat) (a11 : Nat) (a12 : Nat) (c0 : Nat) (c1 : Nat) (c2 : Nat) (p0 : Int32) (p1 : Int32) (sz : Nat)  : Met l yX11_number wsX11_number ({ frames := 2, cells := 0, slots := 0, locals := 44 }) (va_Pc [.ref h0, .int p0, .int p1] (wPre (dC, dI) cy [(h0, .inr (11, [.ref a0, .ref a1, .ref a2, .ref a3, .ref a4, .ref a5, .int 0, .ref a7, .ref a8, .ref a9, .ref a10, .ref a11, .ref a12])), (a1, .inr (4, [.ref c0, .ref c1, .ref c2, .int 0]))] sz)) (va_Qi (fun (r : Int32) (u : Unit) => r = -1) (fun (u : Unit) t => True) (va_A [(h0, .inr (11, [.ref a0, .ref a1, .ref a2, .ref a3, .ref a4, .ref a5, .int 0, .ref a7, .ref a8, .ref a9, .ref a10, .ref a11, .ref a12])), (a1, .inr (4, [.ref c0, .ref c1, .ref c2, .int 0]))] sz)) 0 0 (va_A [(h0, .inr (11, [.ref a0, .ref a1, .ref a2, .ref a3, .ref a4, .ref a5, .int 0, .ref a7, .ref a8, .ref a9, .ref a10, .ref a11, .ref a12])), (a1, .inr (4, [.ref c0, .ref c1, .ref c2, .int 0]))] sz) := by
  refine Met.ofW (cc := cX11_number) (maxL := 3) (ret := (some .int)) (by decide) rfl ?_
  intro p e s m args below meth c s₁ B hml hv
  obtain ⟨rfl, hsz, hP, hK, hD0, hN⟩ := hv
  have hx := B.exec
  have hb := B.bytes
  have hr := B.returns
  have hts := atoms_spec (ws := wsX11_number) B.pre
  have hown : s.vm.findClass RX11 = some m.cls := findClass_of_methodNamed B.named
  have hlocks := B.notSynchronized
  subst hsz
  have hD := hD0.self (sz := s.heap.size)
  generalize hAe : va_A [(h0, .inr (11, [.ref a0, .ref a1, .ref a2, .ref a3, .ref a4, .ref a5, .int 0, .ref a7, .ref a8, .ref a9, .ref a10, .ref a11, .ref a12])), (a1, .inr (4, [.ref c0, .ref c1, .ref c2, .int 0]))] s.heap.size = A at hD ⊢
  have hA : ∀ q : Nat, s.heap.size ≤ q → A q := fun q h => by rw [← hAe]; exact Or.inr h
  have hS : va_S A s.heap s.heap [] := va_S.rf
  have hl := lv_entry ([.ref h0, .int p0, .int p1]) (n := 3) (Nat.le_of_ble_eq_true rfl)
  rw [lg_entry_eq]
  generalize (lg_sl ([.ref h0, .int p0, .int p1]) ++ List.replicate (3 - (lg_sl ([.ref h0, .int p0, .int p1])).length) Slot.unset).toArray = ls at hl ⊢
  have hl : lv_has ls 3 [(0, .ref h0), (1, .int p0), (2, .int p1)] := hl
  refine lv_aload_n hx hb dX11_number_0 rfl (lv_at hl 0 rfl) ?_
  refine va_get (D := (dC, dI)) (ci := 11) (v := .ref a1) (C := RX11) (T := TX11) (N := 13) hx hb hts (fun _ h9 => List.mem_cons_of_mem _ (List.mem_append_left _ (List.mem_append_right _ h9))) hown hK hP 0 rfl rfl 1 (by decide) (hts (.fieldLink RX11 19 "SeatsRound" "nameList" "LSeatsRound$NameList;") (List.mem_of_getElem? (i := 1) rfl)) (fun _ h9 => h9) rfl dX11_number_1 ?_
  change W _ _ _ _ _ _ _ _ _ _ _ _ _ _ _ (F0 m 4 ls [.ref a1])
  refine lv_iload_n hx hb dX11_number_4 rfl (lv_at hl 1 rfl) ?_
  have hPc := hP.sub (ws' := [(a1, .inr (4, [.ref c0, .ref c1, .ref c2, .int 0]))]) [1] rfl
  have hDc := hD.sub (ws' := [(a1, .inr (4, [.ref c0, .ref c1, .ref c2, .int 0]))]) [1] (by decide) rfl
  refine vz_callSi (va_runV (As := [.int p0]) (rest := []) ⟨hx, hb, hml, hown, hts⟩ (c_NL_has l dC dI cy a1 c0 c1 c2 p0 s.heap.size) (cwV 1 hts gX11_number_X4_has rfl rfl rfl (by decide +kernel) ⟨Nat.le_of_ble_eq_true rfl, Nat.le_of_ble_eq_true rfl⟩) (wp_V hK hN hPc hDc (va_recv hK hPc (ci := 4) (q0 := 0) rfl rfl)) rfl rfl hl.1 rfl (lv_room (Nat.le_of_ble_eq_true rfl)) dX11_number_5 ⟨Nat.le_of_ble_eq_true rfl, Nat.le_of_ble_eq_true rfl⟩) (fun r_1 hw_1 => ?_)
  obtain rfl : r_1 = 0 := hw_1
  refine lv_if_ne (tgt := 13) hx hb dX11_number_8 (by decide) (fun c_2 => absurd c_2 (by decide)) (fun _ => ?_)
  refine lv_iconst (v := (-1)) hx hb dX11_number_11 (by decide) ?_
  exact W.iret (v := (-1)) hx hb hr (fun t ht hW => ⟨⟨(-1), (), rfl, (by first | rfl | (exfalso; omega)), trivial⟩, hS.F ht⟩) hS.2.2 dX11_number_12
set_option maxHeartbeats 4000000 in
set_option maxRecDepth 100000 in
theorem c_keeper (l : Launch) (dC : Nat → ClassId) (dI : Nat → Nat → Nat) (cy : Nat → ClassId) (h0 : Nat) (a0 : Nat) (a1 : Nat) (a2 : Nat) (a3 : Nat) (a4 : Nat) (a5 : Nat) (a7 : Nat) (a8 : Nat) (a9 : Nat) (a10 : Nat) (a11 : Nat) (a12 : Nat) (k0 : Nat) (k1 : Nat) (k2 : Nat) (k3 : Nat) (k4 : Nat) (p0 : Int32) (p1 : Int32) (sz : Nat)  : Met l yX11_keeper wsX11_keeper ({ frames := 2, cells := 0, slots := 0, locals := 45 }) (va_Pc [.ref h0, .int p0, .int p1] (wPre (dC, dI) cy [(h0, .inr (11, [.ref a0, .ref a1, .ref a2, .ref a3, .ref a4, .ref a5, .int 0, .ref a7, .ref a8, .ref a9, .ref a10, .ref a11, .ref a12])), (a2, .inr (2, [.ref k0, .ref k1, .ref k2, .ref k3, .ref k4, .int 0])), (k0, .inl (cy 0, 12, .inl (fun _ => 0))), (k1, .inl (cy 0, 12, .inl (fun _ => 0))), (k2, .inl (cy 0, 12, .inl (fun _ => 0))), (k3, .inl (cy 0, 12, .inl (fun _ => 0)))] sz)) (va_Qi (fun (r : Int32) (u : Unit) => r = sp_keeper p0 p1) (fun (u : Unit) t => True) (va_A [(h0, .inr (11, [.ref a0, .ref a1, .ref a2, .ref a3, .ref a4, .ref a5, .int 0, .ref a7, .ref a8, .ref a9, .ref a10, .ref a11, .ref a12])), (a2, .inr (2, [.ref k0, .ref k1, .ref k2, .ref k3, .ref k4, .int 0])), (k0, .inl (cy 0, 12, .inl (fun _ => 0))), (k1, .inl (cy 0, 12, .inl (fun _ => 0))), (k2, .inl (cy 0, 12, .inl (fun _ => 0))), (k3, .inl (cy 0, 12, .inl (fun _ => 0)))] sz)) 0 0 (va_A [(h0, .inr (11, [.ref a0, .ref a1, .ref a2, .ref a3, .ref a4, .ref a5, .int 0, .ref a7, .ref a8, .ref a9, .ref a10, .ref a11, .ref a12])), (a2, .inr (2, [.ref k0, .ref k1, .ref k2, .ref k3, .ref k4, .int 0])), (k0, .inl (cy 0, 12, .inl (fun _ => 0))), (k1, .inl (cy 0, 12, .inl (fun _ => 0))), (k2, .inl (cy 0, 12, .inl (fun _ => 0))), (k3, .inl (cy 0, 12, .inl (fun _ => 0)))] sz) := by
  refine Met.ofW (cc := cX11_keeper) (maxL := 3) (ret := (some .int)) (by decide) rfl ?_
  intro p e s m args below meth c s₁ B hml hv
  obtain ⟨rfl, hsz, hP, hK, hD0, hN⟩ := hv
  have hx := B.exec
  have hb := B.bytes
  have hr := B.returns
  have hts := atoms_spec (ws := wsX11_keeper) B.pre
  have hown : s.vm.findClass RX11 = some m.cls := findClass_of_methodNamed B.named
  have hlocks := B.notSynchronized
  subst hsz
  have hD := hD0.self (sz := s.heap.size)
  generalize hAe : va_A [(h0, .inr (11, [.ref a0, .ref a1, .ref a2, .ref a3, .ref a4, .ref a5, .int 0, .ref a7, .ref a8, .ref a9, .ref a10, .ref a11, .ref a12])), (a2, .inr (2, [.ref k0, .ref k1, .ref k2, .ref k3, .ref k4, .int 0])), (k0, .inl (cy 0, 12, .inl (fun _ => 0))), (k1, .inl (cy 0, 12, .inl (fun _ => 0))), (k2, .inl (cy 0, 12, .inl (fun _ => 0))), (k3, .inl (cy 0, 12, .inl (fun _ => 0)))] s.heap.size = A at hD ⊢
  have hA : ∀ q : Nat, s.heap.size ≤ q → A q := fun q h => by rw [← hAe]; exact Or.inr h
  have hS : va_S A s.heap s.heap [] := va_S.rf
  have hl := lv_entry ([.ref h0, .int p0, .int p1]) (n := 3) (Nat.le_of_ble_eq_true rfl)
  rw [lg_entry_eq]
  generalize (lg_sl ([.ref h0, .int p0, .int p1]) ++ List.replicate (3 - (lg_sl ([.ref h0, .int p0, .int p1])).length) Slot.unset).toArray = ls at hl ⊢
  have hl : lv_has ls 3 [(0, .ref h0), (1, .int p0), (2, .int p1)] := hl
  refine lv_iload_n hx hb dX11_keeper_0 rfl (lv_at hl 1 rfl) ?_
  change W _ _ _ _ _ _ _ _ _ _ _ _ _ _ _ (F0 m 1 ls [.int p0])
  refine lv_if_lt (tgt := 16) hx hb dX11_keeper_1 (by decide) (fun c_1 => ?_) (fun c_1 => ?_)
  · have ic_1 : p0.toInt < (0 : Int) := Int32.lt_iff_toInt_lt.mp c_1
    refine lv_iconst (v := (-1)) hx hb dX11_keeper_16 (by decide) ?_
    exact W.iret (v := (-1)) hx hb hr (fun t ht hW => ⟨⟨(-1), (), rfl, (by unfold sp_keeper; split <;> (try split) <;> first | rfl | (exfalso; omega)), trivial⟩, hS.F ht⟩) hS.2.2 dX11_keeper_17
  · have ic_1 : ¬ p0.toInt < (0 : Int) := fun h9 => c_1 (Int32.lt_iff_toInt_lt.mpr h9)
    refine lv_iload_n hx hb dX11_keeper_4 rfl (lv_at hl 1 rfl) ?_
    refine lv_iconst (v := 5) hx hb dX11_keeper_5 (by decide) ?_
    refine lv_icmp_gt (tgt := 16) hx hb dX11_keeper_6 (by decide) (fun c_2 => ?_) (fun c_2 => ?_)
    · have ic_2 : (5 : Int) < p0.toInt := Int32.lt_iff_toInt_lt.mp c_2
      refine lv_iconst (v := (-1)) hx hb dX11_keeper_16 (by decide) ?_
      exact W.iret (v := (-1)) hx hb hr (fun t ht hW => ⟨⟨(-1), (), rfl, (by unfold sp_keeper; split <;> (try split) <;> first | rfl | (exfalso; omega)), trivial⟩, hS.F ht⟩) hS.2.2 dX11_keeper_17
    · have ic_2 : ¬ (5 : Int) < p0.toInt := fun h9 => c_2 (Int32.lt_iff_toInt_lt.mpr h9)
      refine lv_iload_n hx hb dX11_keeper_9 rfl (lv_at hl 2 rfl) ?_
      have hPc := hP.sub (ws' := []) [] rfl
      have hDc := hD.sub (ws' := []) [] (by decide) rfl
      refine vz_callSi (va_runS (As := [.int p1]) (rest := []) ⟨hx, hb, hml, hown, hts⟩ (c_isStrength l dC dI cy p1 s.heap.size) (va_cwS 1 hts gX11_keeper_X11_isStrength rfl rfl rfl (by decide +kernel) ⟨Nat.le_of_ble_eq_true rfl, Nat.le_of_ble_eq_true rfl⟩) (wp_S hK hN hPc hDc) rfl rfl hl.1 rfl (lv_room (Nat.le_of_ble_eq_true rfl)) dX11_keeper_10 ⟨Nat.le_of_ble_eq_true rfl, Nat.le_of_ble_eq_true rfl⟩) (fun r_3 hw_3 => ?_)
      rcases hw_3 with ⟨c_3, hw_3⟩ | ⟨c_3, hw_3⟩ <;> subst hw_3
      · have ic_3 : 1 ≤ p1.toInt ∧ p1.toInt ≤ 8 := c_3
        refine lv_if_ne (tgt := 18) hx hb dX11_keeper_13 (by decide) (fun _ => ?_) (fun c_4 => absurd c_4 (by decide))
        refine lv_aload_n hx hb dX11_keeper_18 rfl (lv_at hl 0 rfl) ?_
        refine va_get (D := (dC, dI)) (ci := 11) (v := .ref a2) (C := RX11) (T := TX11) (N := 13) hx hb hts (fun _ h9 => List.mem_cons_of_mem _ (List.mem_append_left _ (List.mem_append_right _ h9))) hown hK hP 0 rfl rfl 2 (by decide) (hts (.fieldLink RX11 26 "SeatsRound" "keepers" "LSeatsRound$Keepers;") (List.mem_of_getElem? (i := 1) rfl)) (fun _ h9 => h9) rfl dX11_keeper_19 ?_
        change W _ _ _ _ _ _ _ _ _ _ _ _ _ _ _ (F0 m 22 ls [.ref a2])
        refine va_get (D := (dC, dI)) (ci := 2) (v := .int 0) (C := RX2) (T := TX2) (N := 6) hx hb hts (fun _ h9 => List.mem_cons_of_mem _ (List.mem_append_right _ h9)) hown hK hP 1 rfl rfl 5 (by decide) (hts (.fieldLink RX11 134 "SeatsRound$Keepers" "count" "I") (List.mem_of_getElem? (i := 2) rfl)) (fun _ h9 => h9) rfl dX11_keeper_22 ?_
        refine lv_bipush (v := 12) hx hb dX11_keeper_25 (by decide) ?_
        refine lv_icmp_lt (tgt := 33) hx hb dX11_keeper_27 (by decide) (fun _ => ?_) (fun c_5 => absurd c_5 (by decide))
        refine lv_aload_n hx hb dX11_keeper_33 rfl (lv_at hl 0 rfl) ?_
        refine va_get (D := (dC, dI)) (ci := 11) (v := .ref a2) (C := RX11) (T := TX11) (N := 13) hx hb hts (fun _ h9 => List.mem_cons_of_mem _ (List.mem_append_left _ (List.mem_append_right _ h9))) hown hK hP 0 rfl rfl 2 (by decide) (hts (.fieldLink RX11 26 "SeatsRound" "keepers" "LSeatsRound$Keepers;") (List.mem_of_getElem? (i := 1) rfl)) (fun _ h9 => h9) rfl dX11_keeper_34 ?_
        refine lv_iload_n hx hb dX11_keeper_37 rfl (lv_at hl 1 rfl) ?_
        refine lv_iload_n hx hb dX11_keeper_38 rfl (lv_at hl 2 rfl) ?_
        have hPc := hP.sub (ws' := [(a2, .inr (2, [.ref k0, .ref k1, .ref k2, .ref k3, .ref k4, .int 0])), (k0, .inl (cy 0, 12, .inl (fun _ => 0))), (k1, .inl (cy 0, 12, .inl (fun _ => 0))), (k2, .inl (cy 0, 12, .inl (fun _ => 0))), (k3, .inl (cy 0, 12, .inl (fun _ => 0)))]) [1, 2, 3, 4, 5] rfl
        have hDc := hD.sub (ws' := [(a2, .inr (2, [.ref k0, .ref k1, .ref k2, .ref k3, .ref k4, .int 0])), (k0, .inl (cy 0, 12, .inl (fun _ => 0))), (k1, .inl (cy 0, 12, .inl (fun _ => 0))), (k2, .inl (cy 0, 12, .inl (fun _ => 0))), (k3, .inl (cy 0, 12, .inl (fun _ => 0)))]) [1, 2, 3, 4, 5] (by decide) rfl
        have hFc := va_free (wc := [(a2, .inr (2, [.ref k0, .ref k1, .ref k2, .ref k3, .ref k4, .int 0])), (k0, .inl (cy 0, 12, .inl (fun _ => 0))), (k1, .inl (cy 0, 12, .inl (fun _ => 0))), (k2, .inl (cy 0, 12, .inl (fun _ => 0))), (k3, .inl (cy 0, 12, .inl (fun _ => 0)))]) hD hS hA [1, 2, 3, 4, 5] rfl
        refine va_calli (va_runV (As := [.int p0, .int p1]) (rest := []) ⟨hx, hb, hml, hown, hts⟩ (c_KP_add l dC dI cy a2 k0 k1 k2 k3 k4 p0 p1 s.heap.size) (cwV 2 hts gX11_keeper_X2_add rfl rfl rfl (by decide +kernel) ⟨Nat.le_of_ble_eq_true rfl, Nat.le_of_ble_eq_true rfl⟩) (wp_V hK hN hPc hDc (va_recv hK hPc (ci := 2) (q0 := 0) rfl rfl)) rfl rfl hl.1 rfl (lv_room (Nat.le_of_ble_eq_true rfl)) dX11_keeper_39 ⟨Nat.le_of_ble_eq_true rfl, Nat.le_of_ble_eq_true rfl⟩) hS (fun q _ h => hFc q h) hFc (fun r_6 u_6 t H1 locs ht hvm hw_6 hB hz1 hk1 hS => ?_)
        have hP1 : va_P (dC, dI) vwCl [] H1 := fun k q h => by simp at h
        have hD1 : va_D (va_A [(a2, .inr (2, [.ref k0, .ref k1, .ref k2, .ref k3, .ref k4, .int 0])), (k0, .inl (cy 0, 12, .inl (fun _ => 0))), (k1, .inl (cy 0, 12, .inl (fun _ => 0))), (k2, .inl (cy 0, 12, .inl (fun _ => 0))), (k3, .inl (cy 0, 12, .inl (fun _ => 0)))] s.heap.size) [] := ⟨fun i j p q h => by simp at h, fun k q h => by simp at h⟩
        obtain ⟨hP, hD⟩ := va_join (wr := [(h0, .inr (11, [.ref a0, .ref a1, .ref a2, .ref a3, .ref a4, .ref a5, .int 0, .ref a7, .ref a8, .ref a9, .ref a10, .ref a11, .ref a12]))]) (w1 := []) hP hD [1, 2, 3, 4, 5] [0] rfl rfl (by decide) (by decide) hk1 hFc hP1 hD1
        generalize H1 = H at hP hS ⊢
        have hP : va_P (dC, dI) vwCl [(h0, .inr (11, [.ref a0, .ref a1, .ref a2, .ref a3, .ref a4, .ref a5, .int 0, .ref a7, .ref a8, .ref a9, .ref a10, .ref a11, .ref a12]))] H := hP
        have hD : va_D A [(h0, .inr (11, [.ref a0, .ref a1, .ref a2, .ref a3, .ref a4, .ref a5, .int 0, .ref a7, .ref a8, .ref a9, .ref a10, .ref a11, .ref a12]))] := hD
        obtain rfl : r_6 = 0 := hw_6
        change W _ _ _ _ _ _ _ _ _ _ _ _ _ _ _ (F0 m 42 ls [.int 0])
        exact W.iret (v := 0) hx hb hr (fun t ht hW => ⟨⟨0, (), rfl, (by unfold sp_keeper; split <;> (try split) <;> first | rfl | (exfalso; omega)), trivial⟩, hS.F ht⟩) hS.2.2 dX11_keeper_42
      · have ic_3 : ¬ (1 ≤ p1.toInt ∧ p1.toInt ≤ 8) := c_3
        refine lv_if_ne (tgt := 18) hx hb dX11_keeper_13 (by decide) (fun c_7 => absurd c_7 (by decide)) (fun _ => ?_)
        refine lv_iconst (v := (-1)) hx hb dX11_keeper_16 (by decide) ?_
        exact W.iret (v := (-1)) hx hb hr (fun t ht hW => ⟨⟨(-1), (), rfl, (by unfold sp_keeper; split <;> (try split) <;> first | rfl | (exfalso; omega)), trivial⟩, hS.F ht⟩) hS.2.2 dX11_keeper_17
set_option maxHeartbeats 4000000 in
set_option maxRecDepth 100000 in
theorem c_become (l : Launch) (dC : Nat → ClassId) (dI : Nat → Nat → Nat) (cy : Nat → ClassId) (h0 : Nat) (a0 : Nat) (a1 : Nat) (a2 : Nat) (a3 : Nat) (a4 : Nat) (a5 : Nat) (a7 : Nat) (a8 : Nat) (a9 : Nat) (a10 : Nat) (a11 : Nat) (a12 : Nat) (k0 : Nat) (k1 : Nat) (k2 : Nat) (k3 : Nat) (k4 : Nat) (p0 : Int32) (p1 : Int32) (sz : Nat)  : Met l yX11_become wsX11_become ({ frames := 2, cells := 0, slots := 0, locals := 44 }) (va_Pc [.ref h0, .int p0, .int p1] (wPre (dC, dI) cy [(h0, .inr (11, [.ref a0, .ref a1, .ref a2, .ref a3, .ref a4, .ref a5, .int 0, .ref a7, .ref a8, .ref a9, .ref a10, .ref a11, .ref a12])), (a2, .inr (2, [.ref k0, .ref k1, .ref k2, .ref k3, .ref k4, .int 0]))] sz)) (va_Qi (fun (r : Int32) (u : Unit) => r = -1) (fun (u : Unit) t => True) (va_A [(h0, .inr (11, [.ref a0, .ref a1, .ref a2, .ref a3, .ref a4, .ref a5, .int 0, .ref a7, .ref a8, .ref a9, .ref a10, .ref a11, .ref a12])), (a2, .inr (2, [.ref k0, .ref k1, .ref k2, .ref k3, .ref k4, .int 0]))] sz)) 0 0 (va_A [(h0, .inr (11, [.ref a0, .ref a1, .ref a2, .ref a3, .ref a4, .ref a5, .int 0, .ref a7, .ref a8, .ref a9, .ref a10, .ref a11, .ref a12])), (a2, .inr (2, [.ref k0, .ref k1, .ref k2, .ref k3, .ref k4, .int 0]))] sz) := by
  refine Met.ofW (cc := cX11_become) (maxL := 4) (ret := (some .int)) (by decide) rfl ?_
  intro p e s m args below meth c s₁ B hml hv
  obtain ⟨rfl, hsz, hP, hK, hD0, hN⟩ := hv
  have hx := B.exec
  have hb := B.bytes
  have hr := B.returns
  have hts := atoms_spec (ws := wsX11_become) B.pre
  have hown : s.vm.findClass RX11 = some m.cls := findClass_of_methodNamed B.named
  have hlocks := B.notSynchronized
  subst hsz
  have hD := hD0.self (sz := s.heap.size)
  generalize hAe : va_A [(h0, .inr (11, [.ref a0, .ref a1, .ref a2, .ref a3, .ref a4, .ref a5, .int 0, .ref a7, .ref a8, .ref a9, .ref a10, .ref a11, .ref a12])), (a2, .inr (2, [.ref k0, .ref k1, .ref k2, .ref k3, .ref k4, .int 0]))] s.heap.size = A at hD ⊢
  have hA : ∀ q : Nat, s.heap.size ≤ q → A q := fun q h => by rw [← hAe]; exact Or.inr h
  have hS : va_S A s.heap s.heap [] := va_S.rf
  have hl := lv_entry ([.ref h0, .int p0, .int p1]) (n := 4) (Nat.le_of_ble_eq_true rfl)
  rw [lg_entry_eq]
  generalize (lg_sl ([.ref h0, .int p0, .int p1]) ++ List.replicate (4 - (lg_sl ([.ref h0, .int p0, .int p1])).length) Slot.unset).toArray = ls at hl ⊢
  have hl : lv_has ls 4 [(0, .ref h0), (1, .int p0), (2, .int p1)] := hl
  refine lv_aload_n hx hb dX11_become_0 rfl (lv_at hl 0 rfl) ?_
  refine va_get (D := (dC, dI)) (ci := 11) (v := .ref a2) (C := RX11) (T := TX11) (N := 13) hx hb hts (fun _ h9 => List.mem_cons_of_mem _ (List.mem_append_left _ (List.mem_append_left _ (List.mem_append_left _ (List.mem_append_right _ h9))))) hown hK hP 0 rfl rfl 2 (by decide) (hts (.fieldLink RX11 26 "SeatsRound" "keepers" "LSeatsRound$Keepers;") (List.mem_of_getElem? (i := 1) rfl)) (fun _ h9 => h9) rfl dX11_become_1 ?_
  refine lv_iload_n hx hb dX11_become_4 rfl (lv_at hl 1 rfl) ?_
  have hPc := hP.sub (ws' := [(a2, .inr (2, [.ref k0, .ref k1, .ref k2, .ref k3, .ref k4, .int 0]))]) [1] rfl
  have hDc := hD.sub (ws' := [(a2, .inr (2, [.ref k0, .ref k1, .ref k2, .ref k3, .ref k4, .int 0]))]) [1] (by decide) rfl
  refine vz_callSi (va_runV (As := [.int p0]) (rest := []) ⟨hx, hb, hml, hown, hts⟩ (c_KP_has l dC dI cy a2 k0 k1 k2 k3 k4 p0 s.heap.size) (cwV 1 hts gX11_become_X2_has rfl rfl rfl (by decide +kernel) ⟨Nat.le_of_ble_eq_true rfl, Nat.le_of_ble_eq_true rfl⟩) (wp_V hK hN hPc hDc (va_recv hK hPc (ci := 2) (q0 := 0) rfl rfl)) rfl rfl hl.1 rfl (lv_room (Nat.le_of_ble_eq_true rfl)) dX11_become_5 ⟨Nat.le_of_ble_eq_true rfl, Nat.le_of_ble_eq_true rfl⟩) (fun r_1 hw_1 => ?_)
  obtain rfl : r_1 = 0 := hw_1
  refine lv_if_eq (tgt := 18) hx hb dX11_become_8 (by decide) (fun _ => ?_) (fun c_2 => absurd c_2 (by decide))
  refine lv_iconst (v := (-1)) hx hb dX11_become_18 (by decide) ?_
  exact W.iret (v := (-1)) hx hb hr (fun t ht hW => ⟨⟨(-1), (), rfl, (by first | rfl | (exfalso; omega)), trivial⟩, hS.F ht⟩) hS.2.2 dX11_become_19
set_option maxHeartbeats 4000000 in
set_option maxRecDepth 100000 in
theorem c_strength (l : Launch) (dC : Nat → ClassId) (dI : Nat → Nat → Nat) (cy : Nat → ClassId) (h0 : Nat) (a0 : Nat) (a1 : Nat) (a2 : Nat) (a3 : Nat) (a4 : Nat) (a5 : Nat) (a7 : Nat) (a8 : Nat) (a9 : Nat) (a10 : Nat) (a11 : Nat) (a12 : Nat) (k0 : Nat) (k1 : Nat) (k2 : Nat) (k3 : Nat) (k4 : Nat) (p0 : Int32) (p1 : Int32) (sz : Nat)  : Met l yX11_strength wsX11_strength ({ frames := 2, cells := 0, slots := 0, locals := 44 }) (va_Pc [.ref h0, .int p0, .int p1] (wPre (dC, dI) cy [(h0, .inr (11, [.ref a0, .ref a1, .ref a2, .ref a3, .ref a4, .ref a5, .int 0, .ref a7, .ref a8, .ref a9, .ref a10, .ref a11, .ref a12])), (a2, .inr (2, [.ref k0, .ref k1, .ref k2, .ref k3, .ref k4, .int 0]))] sz)) (va_Qi (fun (r : Int32) (u : Unit) => r = -1) (fun (u : Unit) t => True) (va_A [(h0, .inr (11, [.ref a0, .ref a1, .ref a2, .ref a3, .ref a4, .ref a5, .int 0, .ref a7, .ref a8, .ref a9, .ref a10, .ref a11, .ref a12])), (a2, .inr (2, [.ref k0, .ref k1, .ref k2, .ref k3, .ref k4, .int 0]))] sz)) 0 0 (va_A [(h0, .inr (11, [.ref a0, .ref a1, .ref a2, .ref a3, .ref a4, .ref a5, .int 0, .ref a7, .ref a8, .ref a9, .ref a10, .ref a11, .ref a12])), (a2, .inr (2, [.ref k0, .ref k1, .ref k2, .ref k3, .ref k4, .int 0]))] sz) := by
  refine Met.ofW (cc := cX11_strength) (maxL := 4) (ret := (some .int)) (by decide) rfl ?_
  intro p e s m args below meth c s₁ B hml hv
  obtain ⟨rfl, hsz, hP, hK, hD0, hN⟩ := hv
  have hx := B.exec
  have hb := B.bytes
  have hr := B.returns
  have hts := atoms_spec (ws := wsX11_strength) B.pre
  have hown : s.vm.findClass RX11 = some m.cls := findClass_of_methodNamed B.named
  have hlocks := B.notSynchronized
  subst hsz
  have hD := hD0.self (sz := s.heap.size)
  generalize hAe : va_A [(h0, .inr (11, [.ref a0, .ref a1, .ref a2, .ref a3, .ref a4, .ref a5, .int 0, .ref a7, .ref a8, .ref a9, .ref a10, .ref a11, .ref a12])), (a2, .inr (2, [.ref k0, .ref k1, .ref k2, .ref k3, .ref k4, .int 0]))] s.heap.size = A at hD ⊢
  have hA : ∀ q : Nat, s.heap.size ≤ q → A q := fun q h => by rw [← hAe]; exact Or.inr h
  have hS : va_S A s.heap s.heap [] := va_S.rf
  have hl := lv_entry ([.ref h0, .int p0, .int p1]) (n := 4) (Nat.le_of_ble_eq_true rfl)
  rw [lg_entry_eq]
  generalize (lg_sl ([.ref h0, .int p0, .int p1]) ++ List.replicate (4 - (lg_sl ([.ref h0, .int p0, .int p1])).length) Slot.unset).toArray = ls at hl ⊢
  have hl : lv_has ls 4 [(0, .ref h0), (1, .int p0), (2, .int p1)] := hl
  refine lv_aload_n hx hb dX11_strength_0 rfl (lv_at hl 0 rfl) ?_
  refine va_get (D := (dC, dI)) (ci := 11) (v := .ref a2) (C := RX11) (T := TX11) (N := 13) hx hb hts (fun _ h9 => List.mem_cons_of_mem _ (List.mem_append_left _ (List.mem_append_right _ h9))) hown hK hP 0 rfl rfl 2 (by decide) (hts (.fieldLink RX11 26 "SeatsRound" "keepers" "LSeatsRound$Keepers;") (List.mem_of_getElem? (i := 1) rfl)) (fun _ h9 => h9) rfl dX11_strength_1 ?_
  refine lv_iload_n hx hb dX11_strength_4 rfl (lv_at hl 1 rfl) ?_
  have hPc := hP.sub (ws' := [(a2, .inr (2, [.ref k0, .ref k1, .ref k2, .ref k3, .ref k4, .int 0]))]) [1] rfl
  have hDc := hD.sub (ws' := [(a2, .inr (2, [.ref k0, .ref k1, .ref k2, .ref k3, .ref k4, .int 0]))]) [1] (by decide) rfl
  refine vz_callSi (va_runV (As := [.int p0]) (rest := []) ⟨hx, hb, hml, hown, hts⟩ (c_KP_has l dC dI cy a2 k0 k1 k2 k3 k4 p0 s.heap.size) (cwV 1 hts gX11_strength_X2_has rfl rfl rfl (by decide +kernel) ⟨Nat.le_of_ble_eq_true rfl, Nat.le_of_ble_eq_true rfl⟩) (wp_V hK hN hPc hDc (va_recv hK hPc (ci := 2) (q0 := 0) rfl rfl)) rfl rfl hl.1 rfl (lv_room (Nat.le_of_ble_eq_true rfl)) dX11_strength_5 ⟨Nat.le_of_ble_eq_true rfl, Nat.le_of_ble_eq_true rfl⟩) (fun r_1 hw_1 => ?_)
  obtain rfl : r_1 = 0 := hw_1
  change W _ _ _ _ _ _ _ _ _ _ _ _ _ _ _ (F0 m 8 ls [.int 0])
  refine lv_if_eq (tgt := 18) hx hb dX11_strength_8 (by decide) (fun _ => ?_) (fun c_2 => absurd c_2 (by decide))
  refine lv_iconst (v := (-1)) hx hb dX11_strength_18 (by decide) ?_
  exact W.iret (v := (-1)) hx hb hr (fun t ht hW => ⟨⟨(-1), (), rfl, (by first | rfl | (exfalso; omega)), trivial⟩, hS.F ht⟩) hS.2.2 dX11_strength_19
set_option maxHeartbeats 4000000 in
set_option maxRecDepth 100000 in
theorem c_ofKeeper (l : Launch) (dC : Nat → ClassId) (dI : Nat → Nat → Nat) (cy : Nat → ClassId) (h0 : Nat) (a0 : Nat) (a1 : Nat) (a2 : Nat) (a3 : Nat) (a4 : Nat) (a5 : Nat) (a7 : Nat) (a8 : Nat) (a9 : Nat) (a10 : Nat) (a11 : Nat) (a12 : Nat) (k0 : Nat) (k1 : Nat) (k2 : Nat) (k3 : Nat) (k4 : Nat) (p0 : Int32) (p1 : Int32) (sz : Nat)  : Met l yX11_ofKeeper wsX11_ofKeeper ({ frames := 2, cells := 0, slots := 0, locals := 44 }) (va_Pc [.ref h0, .int p0, .int p1] (wPre (dC, dI) cy [(h0, .inr (11, [.ref a0, .ref a1, .ref a2, .ref a3, .ref a4, .ref a5, .int 0, .ref a7, .ref a8, .ref a9, .ref a10, .ref a11, .ref a12])), (a2, .inr (2, [.ref k0, .ref k1, .ref k2, .ref k3, .ref k4, .int 0]))] sz)) (va_Qi (fun (r : Int32) (u : Unit) => r = -2000000000) (fun (u : Unit) t => True) (va_A [(h0, .inr (11, [.ref a0, .ref a1, .ref a2, .ref a3, .ref a4, .ref a5, .int 0, .ref a7, .ref a8, .ref a9, .ref a10, .ref a11, .ref a12])), (a2, .inr (2, [.ref k0, .ref k1, .ref k2, .ref k3, .ref k4, .int 0]))] sz)) 0 0 (va_A [(h0, .inr (11, [.ref a0, .ref a1, .ref a2, .ref a3, .ref a4, .ref a5, .int 0, .ref a7, .ref a8, .ref a9, .ref a10, .ref a11, .ref a12])), (a2, .inr (2, [.ref k0, .ref k1, .ref k2, .ref k3, .ref k4, .int 0]))] sz) := by
  refine Met.ofW (cc := cX11_ofKeeper) (maxL := 3) (ret := (some .int)) (by decide) rfl ?_
  intro p e s m args below meth c s₁ B hml hv
  obtain ⟨rfl, hsz, hP, hK, hD0, hN⟩ := hv
  have hx := B.exec
  have hb := B.bytes
  have hr := B.returns
  have hts := atoms_spec (ws := wsX11_ofKeeper) B.pre
  have hown : s.vm.findClass RX11 = some m.cls := findClass_of_methodNamed B.named
  have hlocks := B.notSynchronized
  subst hsz
  have hD := hD0.self (sz := s.heap.size)
  generalize hAe : va_A [(h0, .inr (11, [.ref a0, .ref a1, .ref a2, .ref a3, .ref a4, .ref a5, .int 0, .ref a7, .ref a8, .ref a9, .ref a10, .ref a11, .ref a12])), (a2, .inr (2, [.ref k0, .ref k1, .ref k2, .ref k3, .ref k4, .int 0]))] s.heap.size = A at hD ⊢
  have hA : ∀ q : Nat, s.heap.size ≤ q → A q := fun q h => by rw [← hAe]; exact Or.inr h
  have hS : va_S A s.heap s.heap [] := va_S.rf
  have hl := lv_entry ([.ref h0, .int p0, .int p1]) (n := 3) (Nat.le_of_ble_eq_true rfl)
  rw [lg_entry_eq]
  generalize (lg_sl ([.ref h0, .int p0, .int p1]) ++ List.replicate (3 - (lg_sl ([.ref h0, .int p0, .int p1])).length) Slot.unset).toArray = ls at hl ⊢
  have hl : lv_has ls 3 [(0, .ref h0), (1, .int p0), (2, .int p1)] := hl
  refine lv_aload_n hx hb dX11_ofKeeper_0 rfl (lv_at hl 0 rfl) ?_
  refine va_get (D := (dC, dI)) (ci := 11) (v := .ref a2) (C := RX11) (T := TX11) (N := 13) hx hb hts (fun _ h9 => List.mem_cons_of_mem _ (List.mem_append_left _ (List.mem_append_left _ (List.mem_append_right _ h9)))) hown hK hP 0 rfl rfl 2 (by decide) (hts (.fieldLink RX11 26 "SeatsRound" "keepers" "LSeatsRound$Keepers;") (List.mem_of_getElem? (i := 1) rfl)) (fun _ h9 => h9) rfl dX11_ofKeeper_1 ?_
  refine lv_iload_n hx hb dX11_ofKeeper_4 rfl (lv_at hl 1 rfl) ?_
  have hPc := hP.sub (ws' := [(a2, .inr (2, [.ref k0, .ref k1, .ref k2, .ref k3, .ref k4, .int 0]))]) [1] rfl
  have hDc := hD.sub (ws' := [(a2, .inr (2, [.ref k0, .ref k1, .ref k2, .ref k3, .ref k4, .int 0]))]) [1] (by decide) rfl
  refine vz_callSi (va_runV (As := [.int p0]) (rest := []) ⟨hx, hb, hml, hown, hts⟩ (c_KP_has l dC dI cy a2 k0 k1 k2 k3 k4 p0 s.heap.size) (cwV 1 hts gX11_ofKeeper_X2_has rfl rfl rfl (by decide +kernel) ⟨Nat.le_of_ble_eq_true rfl, Nat.le_of_ble_eq_true rfl⟩) (wp_V hK hN hPc hDc (va_recv hK hPc (ci := 2) (q0 := 0) rfl rfl)) rfl rfl hl.1 rfl (lv_room (Nat.le_of_ble_eq_true rfl)) dX11_ofKeeper_5 ⟨Nat.le_of_ble_eq_true rfl, Nat.le_of_ble_eq_true rfl⟩) (fun r_1 hw_1 => ?_)
  obtain rfl : r_1 = 0 := hw_1
  refine lv_if_ne (tgt := 14) hx hb dX11_ofKeeper_8 (by decide) (fun c_2 => absurd c_2 (by decide)) (fun _ => ?_)
  refine lv_ldc hx hb hown (hts (.constant RX11 152 (-2000000000)) (List.mem_of_getElem? (i := 2) rfl)) dX11_ofKeeper_11 ?_
  exact W.iret (v := (-2000000000)) hx hb hr (fun t ht hW => ⟨⟨(-2000000000), (), rfl, (by first | rfl | (exfalso; omega)), trivial⟩, hS.F ht⟩) hS.2.2 dX11_ofKeeper_13
set_option maxHeartbeats 4000000 in
set_option maxRecDepth 100000 in
theorem c_table (l : Launch) (dC : Nat → ClassId) (dI : Nat → Nat → Nat) (cy : Nat → ClassId) (h0 : Nat) (a0 : Nat) (a1 : Nat) (a2 : Nat) (a3 : Nat) (a4 : Nat) (a5 : Nat) (a7 : Nat) (a8 : Nat) (a9 : Nat) (a10 : Nat) (a11 : Nat) (a12 : Nat) (k0 : Nat) (k1 : Nat) (k2 : Nat) (k3 : Nat) (k4 : Nat) (p0 : Int32) (p1 : Int32) (sz : Nat)  : Met l yX11_table wsX11_table ({ frames := 1, cells := 0, slots := 0, locals := 23 }) (va_Pc [.ref h0, .int p0, .int p1] (wPre (dC, dI) cy [(h0, .inr (11, [.ref a0, .ref a1, .ref a2, .ref a3, .ref a4, .ref a5, .int 0, .ref a7, .ref a8, .ref a9, .ref a10, .ref a11, .ref a12])), (a2, .inr (2, [.ref k0, .ref k1, .ref k2, .ref k3, .ref k4, .int 0]))] sz)) (va_Qi (fun (r : Int32) (u : Unit) => r = -1) (fun (u : Unit) t => True) (va_A [(h0, .inr (11, [.ref a0, .ref a1, .ref a2, .ref a3, .ref a4, .ref a5, .int 0, .ref a7, .ref a8, .ref a9, .ref a10, .ref a11, .ref a12])), (a2, .inr (2, [.ref k0, .ref k1, .ref k2, .ref k3, .ref k4, .int 0]))] sz)) 0 0 (va_A [(h0, .inr (11, [.ref a0, .ref a1, .ref a2, .ref a3, .ref a4, .ref a5, .int 0, .ref a7, .ref a8, .ref a9, .ref a10, .ref a11, .ref a12])), (a2, .inr (2, [.ref k0, .ref k1, .ref k2, .ref k3, .ref k4, .int 0]))] sz) := by
  refine Met.ofW (cc := cX11_table) (maxL := 6) (ret := (some .int)) (by decide) rfl ?_
  intro p e s m args below meth c s₁ B hml hv
  obtain ⟨rfl, hsz, hP, hK, hD0, hN⟩ := hv
  have hx := B.exec
  have hb := B.bytes
  have hr := B.returns
  have hts := atoms_spec (ws := wsX11_table) B.pre
  have hown : s.vm.findClass RX11 = some m.cls := findClass_of_methodNamed B.named
  have hlocks := B.notSynchronized
  subst hsz
  have hD := hD0.self (sz := s.heap.size)
  generalize hAe : va_A [(h0, .inr (11, [.ref a0, .ref a1, .ref a2, .ref a3, .ref a4, .ref a5, .int 0, .ref a7, .ref a8, .ref a9, .ref a10, .ref a11, .ref a12])), (a2, .inr (2, [.ref k0, .ref k1, .ref k2, .ref k3, .ref k4, .int 0]))] s.heap.size = A at hD ⊢
  have hA : ∀ q : Nat, s.heap.size ≤ q → A q := fun q h => by rw [← hAe]; exact Or.inr h
  have hS : va_S A s.heap s.heap [] := va_S.rf
  have hl := lv_entry ([.ref h0, .int p0, .int p1]) (n := 6) (Nat.le_of_ble_eq_true rfl)
  rw [lg_entry_eq]
  generalize (lg_sl ([.ref h0, .int p0, .int p1]) ++ List.replicate (6 - (lg_sl ([.ref h0, .int p0, .int p1])).length) Slot.unset).toArray = ls at hl ⊢
  have hl : lv_has ls 6 [(0, .ref h0), (1, .int p0), (2, .int p1)] := hl
  refine lv_iconst (v := 1) hx hb dX11_table_0 (by decide) ?_
  refine lv_aload_n hx hb dX11_table_1 rfl (lv_at hl 0 rfl) ?_
  change W _ _ _ _ _ _ _ _ _ _ _ _ _ _ _ (F0 m 2 ls [.ref h0, .int 1])
  refine va_get (D := (dC, dI)) (ci := 11) (v := .ref a2) (C := RX11) (T := TX11) (N := 13) hx hb hts (fun _ h9 => List.mem_cons_of_mem _ (List.mem_append_left _ (List.mem_append_left _ (List.mem_append_left _ (List.mem_append_left _ (List.mem_append_right _ h9)))))) hown hK hP 0 rfl rfl 2 (by decide) (hts (.fieldLink RX11 26 "SeatsRound" "keepers" "LSeatsRound$Keepers;") (List.mem_of_getElem? (i := 1) rfl)) (fun _ h9 => h9) rfl dX11_table_2 ?_
  refine va_get (D := (dC, dI)) (ci := 2) (v := .int 0) (C := RX2) (T := TX2) (N := 6) hx hb hts (fun _ h9 => List.mem_cons_of_mem _ (List.mem_append_left _ (List.mem_append_left _ (List.mem_append_left _ (List.mem_append_right _ h9))))) hown hK hP 1 rfl rfl 5 (by decide) (hts (.fieldLink RX11 134 "SeatsRound$Keepers" "count" "I") (List.mem_of_getElem? (i := 2) rfl)) (fun _ h9 => h9) rfl dX11_table_5 ?_
  refine lv_ishl hx hb dX11_table_8 ?_
  refine lv_topi (fun f_1 ef_1 => ?_)
  obtain rfl : f_1 = 1 := ef_1.trans (by decide)
  refine lv_iconst (v := 1) hx hb dX11_table_9 (by decide) ?_
  refine lv_isub hx hb dX11_table_10 ?_
  refine lv_topi (fun f_2 ef_2 => ?_)
  obtain rfl : f_2 = 0 := ef_2.trans (by decide)
  refine lv_istore_n (lv' := [(3, .int 0), (0, .ref h0), (1, .int p0), (2, .int p1)]) hx hb dX11_table_11 rfl hl (by decide) rfl (fun ls hl => ?_)
  refine lv_iload_n hx hb dX11_table_12 rfl (lv_at hl 2 rfl) ?_
  refine lv_if_eq (tgt := 24) hx hb dX11_table_13 (by decide) (fun c_3 => ?_) (fun c_3 => ?_)
  · have ic_3 : p0.toInt = (0 : Int) := congrArg Int32.toInt c_3
    refine lv_iconst (v := (-1)) hx hb dX11_table_24 (by decide) ?_
    change W _ _ _ _ _ _ _ _ _ _ _ _ _ _ _ (F0 m 25 ls [.int (-1)])
    exact W.iret (v := (-1)) hx hb hr (fun t ht hW => ⟨⟨(-1), (), rfl, (by first | rfl | (exfalso; omega)), trivial⟩, hS.F ht⟩) hS.2.2 dX11_table_25
  · have ic_3 : ¬ p0.toInt = (0 : Int) := fun h9 => c_3 (Int32.toInt_inj.mp h9)
    refine lv_iload_n hx hb dX11_table_16 rfl (lv_at hl 2 rfl) ?_
    refine lv_iload_n hx hb dX11_table_17 rfl (lv_at hl 0 rfl) ?_
    refine lv_iconst (v := (-1)) hx hb dX11_table_18 (by decide) ?_
    refine lv_ixor hx hb dX11_table_19 ?_
    refine lv_topi (fun f_4 ef_4 => ?_)
    obtain rfl : f_4 = (-1) := ef_4.trans (by decide)
    refine lv_iand hx hb dX11_table_20 ?_
    refine lv_topi (fun f_5 ef_5 => ?_)
    obtain rfl : p0 = f_5 := (ef_5.trans (vz_andm1 p0)).symm
    refine lv_if_eq (tgt := 26) hx hb dX11_table_21 (by decide) (fun c_6 => ?_) (fun c_6 => ?_)
    · have ic_6 : p0.toInt = (0 : Int) := congrArg Int32.toInt c_6
      exact absurd True.intro (by omega)
    · have ic_6 : ¬ p0.toInt = (0 : Int) := fun h9 => c_6 (Int32.toInt_inj.mp h9)
      refine lv_iconst (v := (-1)) hx hb dX11_table_24 (by decide) ?_
      exact W.iret (v := (-1)) hx hb hr (fun t ht hW => ⟨⟨(-1), (), rfl, (by first | rfl | (exfalso; omega)), trivial⟩, hS.F ht⟩) hS.2.2 dX11_table_25
set_option maxHeartbeats 4000000 in
set_option maxRecDepth 100000 in
theorem c_ofTable (l : Launch) (dC : Nat → ClassId) (dI : Nat → Nat → Nat) (cy : Nat → ClassId) (h0 : Nat) (a0 : Nat) (a1 : Nat) (a2 : Nat) (a3 : Nat) (a4 : Nat) (a5 : Nat) (a7 : Nat) (a8 : Nat) (a9 : Nat) (a10 : Nat) (a11 : Nat) (a12 : Nat) (p0 : Int32) (p1 : Int32) (sz : Nat)  : Met l yX11_ofTable wsX11_ofTable ({ frames := 2, cells := 0, slots := 0, locals := 44 }) (va_Pc [.ref h0, .int p0, .int p1] (wPre (dC, dI) cy [(h0, .inr (11, [.ref a0, .ref a1, .ref a2, .ref a3, .ref a4, .ref a5, .int 0, .ref a7, .ref a8, .ref a9, .ref a10, .ref a11, .ref a12]))] sz)) (va_Qi (fun (r : Int32) (u : Unit) => r = -1) (fun (u : Unit) t => True) (va_A [(h0, .inr (11, [.ref a0, .ref a1, .ref a2, .ref a3, .ref a4, .ref a5, .int 0, .ref a7, .ref a8, .ref a9, .ref a10, .ref a11, .ref a12]))] sz)) 0 0 (va_A [(h0, .inr (11, [.ref a0, .ref a1, .ref a2, .ref a3, .ref a4, .ref a5, .int 0, .ref a7, .ref a8, .ref a9, .ref a10, .ref a11, .ref a12]))] sz) := by
  refine Met.ofW (cc := cX11_ofTable) (maxL := 4) (ret := (some .int)) (by decide) rfl ?_
  intro p e s m args below meth c s₁ B hml hv
  obtain ⟨rfl, hsz, hP, hK, hD0, hN⟩ := hv
  have hx := B.exec
  have hb := B.bytes
  have hr := B.returns
  have hts := atoms_spec (ws := wsX11_ofTable) B.pre
  have hown : s.vm.findClass RX11 = some m.cls := findClass_of_methodNamed B.named
  have hlocks := B.notSynchronized
  subst hsz
  have hD := hD0.self (sz := s.heap.size)
  generalize hAe : va_A [(h0, .inr (11, [.ref a0, .ref a1, .ref a2, .ref a3, .ref a4, .ref a5, .int 0, .ref a7, .ref a8, .ref a9, .ref a10, .ref a11, .ref a12]))] s.heap.size = A at hD ⊢
  have hA : ∀ q : Nat, s.heap.size ≤ q → A q := fun q h => by rw [← hAe]; exact Or.inr h
  have hS : va_S A s.heap s.heap [] := va_S.rf
  have hl := lv_entry ([.ref h0, .int p0, .int p1]) (n := 4) (Nat.le_of_ble_eq_true rfl)
  rw [lg_entry_eq]
  generalize (lg_sl ([.ref h0, .int p0, .int p1]) ++ List.replicate (4 - (lg_sl ([.ref h0, .int p0, .int p1])).length) Slot.unset).toArray = ls at hl ⊢
  have hl : lv_has ls 4 [(0, .ref h0), (1, .int p0), (2, .int p1)] := hl
  refine lv_aload_n hx hb dX11_ofTable_0 rfl (lv_at hl 0 rfl) ?_
  refine lv_iload_n hx hb dX11_ofTable_1 rfl (lv_at hl 1 rfl) ?_
  have hPc := hP.sub (ws' := [(h0, .inr (11, [.ref a0, .ref a1, .ref a2, .ref a3, .ref a4, .ref a5, .int 0, .ref a7, .ref a8, .ref a9, .ref a10, .ref a11, .ref a12]))]) [0] rfl
  have hDc := hD.sub (ws' := [(h0, .inr (11, [.ref a0, .ref a1, .ref a2, .ref a3, .ref a4, .ref a5, .int 0, .ref a7, .ref a8, .ref a9, .ref a10, .ref a11, .ref a12]))]) [0] (by decide) rfl
  refine vz_callSq (va_runV (As := [.int p0]) (rest := []) ⟨hx, hb, hml, hown, hts⟩ (c_tableAt l dC dI cy h0 a0 a1 a2 a3 a4 a5 a7 a8 a9 a10 a11 a12 p0 s.heap.size) (cwV 1 hts gX11_ofTable_X11_tableAt rfl rfl rfl (by decide +kernel) ⟨Nat.le_of_ble_eq_true rfl, Nat.le_of_ble_eq_true rfl⟩) (wp_V hK hN hPc hDc (va_recv hK hPc (ci := 11) (q0 := 0) rfl rfl)) rfl rfl hl.1 rfl (lv_room (Nat.le_of_ble_eq_true rfl)) dX11_ofTable_2 ⟨Nat.le_of_ble_eq_true rfl, Nat.le_of_ble_eq_true rfl⟩) (fun r_1 hw_1 => ?_)
  obtain rfl : r_1 = none := hw_1
  show W _ _ _ _ _ _ _ _ _ _ _ _ _ _ _ (F0 m 5 ls (.null :: []))
  change W _ _ _ _ _ _ _ _ _ _ _ _ _ _ _ (F0 m 5 ls [.null])
  refine lv_astore_nN (lv' := [(3, .null), (0, .ref h0), (1, .int p0), (2, .int p1)]) hx hb dX11_ofTable_5 rfl hl (by decide) rfl (fun ls hl => ?_)
  refine lv_aload_nN hx hb dX11_ofTable_6 rfl (lv_at hl 0 rfl) ?_
  refine lv_ifnonnullN hx hb dX11_ofTable_7 ?_
  refine lv_iconst (v := (-1)) hx hb dX11_ofTable_10 (by decide) ?_
  exact W.iret (v := (-1)) hx hb hr (fun t ht hW => ⟨⟨(-1), (), rfl, (by first | rfl | (exfalso; omega)), trivial⟩, hS.F ht⟩) hS.2.2 dX11_ofTable_11
set_option maxHeartbeats 4000000 in
set_option maxRecDepth 100000 in
theorem c_seat (l : Launch) (dC : Nat → ClassId) (dI : Nat → Nat → Nat) (cy : Nat → ClassId) (h0 : Nat) (a0 : Nat) (a1 : Nat) (a2 : Nat) (a3 : Nat) (a4 : Nat) (a5 : Nat) (a7 : Nat) (a8 : Nat) (a9 : Nat) (a10 : Nat) (a11 : Nat) (a12 : Nat) (p0 : Int32) (p1 : Int32) (sz : Nat)  : Met l yX11_seat wsX11_seat ({ frames := 2, cells := 0, slots := 0, locals := 44 }) (va_Pc [.ref h0, .int p0, .int p1] (wPre (dC, dI) cy [(h0, .inr (11, [.ref a0, .ref a1, .ref a2, .ref a3, .ref a4, .ref a5, .int 0, .ref a7, .ref a8, .ref a9, .ref a10, .ref a11, .ref a12]))] sz)) (va_Qi (fun (r : Int32) (u : Unit) => r = -1) (fun (u : Unit) t => True) (va_A [(h0, .inr (11, [.ref a0, .ref a1, .ref a2, .ref a3, .ref a4, .ref a5, .int 0, .ref a7, .ref a8, .ref a9, .ref a10, .ref a11, .ref a12]))] sz)) 0 0 (va_A [(h0, .inr (11, [.ref a0, .ref a1, .ref a2, .ref a3, .ref a4, .ref a5, .int 0, .ref a7, .ref a8, .ref a9, .ref a10, .ref a11, .ref a12]))] sz) := by
  refine Met.ofW (cc := cX11_seat) (maxL := 4) (ret := (some .int)) (by decide) rfl ?_
  intro p e s m args below meth c s₁ B hml hv
  obtain ⟨rfl, hsz, hP, hK, hD0, hN⟩ := hv
  have hx := B.exec
  have hb := B.bytes
  have hr := B.returns
  have hts := atoms_spec (ws := wsX11_seat) B.pre
  have hown : s.vm.findClass RX11 = some m.cls := findClass_of_methodNamed B.named
  have hlocks := B.notSynchronized
  subst hsz
  have hD := hD0.self (sz := s.heap.size)
  generalize hAe : va_A [(h0, .inr (11, [.ref a0, .ref a1, .ref a2, .ref a3, .ref a4, .ref a5, .int 0, .ref a7, .ref a8, .ref a9, .ref a10, .ref a11, .ref a12]))] s.heap.size = A at hD ⊢
  have hA : ∀ q : Nat, s.heap.size ≤ q → A q := fun q h => by rw [← hAe]; exact Or.inr h
  have hS : va_S A s.heap s.heap [] := va_S.rf
  have hl := lv_entry ([.ref h0, .int p0, .int p1]) (n := 4) (Nat.le_of_ble_eq_true rfl)
  rw [lg_entry_eq]
  generalize (lg_sl ([.ref h0, .int p0, .int p1]) ++ List.replicate (4 - (lg_sl ([.ref h0, .int p0, .int p1])).length) Slot.unset).toArray = ls at hl ⊢
  have hl : lv_has ls 4 [(0, .ref h0), (1, .int p0), (2, .int p1)] := hl
  refine lv_aload_n hx hb dX11_seat_0 rfl (lv_at hl 0 rfl) ?_
  refine lv_iload_n hx hb dX11_seat_1 rfl (lv_at hl 1 rfl) ?_
  have hPc := hP.sub (ws' := [(h0, .inr (11, [.ref a0, .ref a1, .ref a2, .ref a3, .ref a4, .ref a5, .int 0, .ref a7, .ref a8, .ref a9, .ref a10, .ref a11, .ref a12]))]) [0] rfl
  have hDc := hD.sub (ws' := [(h0, .inr (11, [.ref a0, .ref a1, .ref a2, .ref a3, .ref a4, .ref a5, .int 0, .ref a7, .ref a8, .ref a9, .ref a10, .ref a11, .ref a12]))]) [0] (by decide) rfl
  refine vz_callSq (va_runV (As := [.int p0]) (rest := []) ⟨hx, hb, hml, hown, hts⟩ (c_tableAt l dC dI cy h0 a0 a1 a2 a3 a4 a5 a7 a8 a9 a10 a11 a12 p0 s.heap.size) (cwV 1 hts gX11_seat_X11_tableAt rfl rfl rfl (by decide +kernel) ⟨Nat.le_of_ble_eq_true rfl, Nat.le_of_ble_eq_true rfl⟩) (wp_V hK hN hPc hDc (va_recv hK hPc (ci := 11) (q0 := 0) rfl rfl)) rfl rfl hl.1 rfl (lv_room (Nat.le_of_ble_eq_true rfl)) dX11_seat_2 ⟨Nat.le_of_ble_eq_true rfl, Nat.le_of_ble_eq_true rfl⟩) (fun r_1 hw_1 => ?_)
  obtain rfl : r_1 = none := hw_1
  show W _ _ _ _ _ _ _ _ _ _ _ _ _ _ _ (F0 m 5 ls (.null :: []))
  refine lv_astore_nN (lv' := [(3, .null), (0, .ref h0), (1, .int p0), (2, .int p1)]) hx hb dX11_seat_5 rfl hl (by decide) rfl (fun ls hl => ?_)
  refine lv_aload_nN hx hb dX11_seat_6 rfl (lv_at hl 0 rfl) ?_
  change W _ _ _ _ _ _ _ _ _ _ _ _ _ _ _ (F0 m 7 ls [.null])
  refine lv_ifnullN (tgt := 17) hx hb dX11_seat_7 (by decide) ?_
  refine lv_iconst (v := (-1)) hx hb dX11_seat_17 (by decide) ?_
  exact W.iret (v := (-1)) hx hb hr (fun t ht hW => ⟨⟨(-1), (), rfl, (by first | rfl | (exfalso; omega)), trivial⟩, hS.F ht⟩) hS.2.2 dX11_seat_18
set_option maxHeartbeats 4000000 in
set_option maxRecDepth 100000 in
theorem c_picked (l : Launch) (dC : Nat → ClassId) (dI : Nat → Nat → Nat) (cy : Nat → ClassId) (h0 : Nat) (a0 : Nat) (a1 : Nat) (a2 : Nat) (a3 : Nat) (a4 : Nat) (a5 : Nat) (a7 : Nat) (a8 : Nat) (a9 : Nat) (a10 : Nat) (a11 : Nat) (a12 : Nat) (p0 : Int32) (p1 : Int32) (p2 : Int32) (sz : Nat)  : Met l yX11_picked wsX11_picked ({ frames := 2, cells := 0, slots := 0, locals := 44 }) (va_Pc [.ref h0, .int p0, .int p1, .int p2] (wPre (dC, dI) cy [(h0, .inr (11, [.ref a0, .ref a1, .ref a2, .ref a3, .ref a4, .ref a5, .int 0, .ref a7, .ref a8, .ref a9, .ref a10, .ref a11, .ref a12]))] sz)) (va_Qi (fun (r : Int32) (u : Unit) => r = -1) (fun (u : Unit) t => True) (va_A [(h0, .inr (11, [.ref a0, .ref a1, .ref a2, .ref a3, .ref a4, .ref a5, .int 0, .ref a7, .ref a8, .ref a9, .ref a10, .ref a11, .ref a12]))] sz)) 0 0 (va_A [(h0, .inr (11, [.ref a0, .ref a1, .ref a2, .ref a3, .ref a4, .ref a5, .int 0, .ref a7, .ref a8, .ref a9, .ref a10, .ref a11, .ref a12]))] sz) := by
  refine Met.ofW (cc := cX11_picked) (maxL := 5) (ret := (some .int)) (by decide) rfl ?_
  intro p e s m args below meth c s₁ B hml hv
  obtain ⟨rfl, hsz, hP, hK, hD0, hN⟩ := hv
  have hx := B.exec
  have hb := B.bytes
  have hr := B.returns
  have hts := atoms_spec (ws := wsX11_picked) B.pre
  have hown : s.vm.findClass RX11 = some m.cls := findClass_of_methodNamed B.named
  have hlocks := B.notSynchronized
  subst hsz
  have hD := hD0.self (sz := s.heap.size)
  generalize hAe : va_A [(h0, .inr (11, [.ref a0, .ref a1, .ref a2, .ref a3, .ref a4, .ref a5, .int 0, .ref a7, .ref a8, .ref a9, .ref a10, .ref a11, .ref a12]))] s.heap.size = A at hD ⊢
  have hA : ∀ q : Nat, s.heap.size ≤ q → A q := fun q h => by rw [← hAe]; exact Or.inr h
  have hS : va_S A s.heap s.heap [] := va_S.rf
  have hl := lv_entry ([.ref h0, .int p0, .int p1, .int p2]) (n := 5) (Nat.le_of_ble_eq_true rfl)
  rw [lg_entry_eq]
  generalize (lg_sl ([.ref h0, .int p0, .int p1, .int p2]) ++ List.replicate (5 - (lg_sl ([.ref h0, .int p0, .int p1, .int p2])).length) Slot.unset).toArray = ls at hl ⊢
  have hl : lv_has ls 5 [(0, .ref h0), (1, .int p0), (2, .int p1), (3, .int p2)] := hl
  refine lv_aload_n hx hb dX11_picked_0 rfl (lv_at hl 0 rfl) ?_
  refine lv_iload_n hx hb dX11_picked_1 rfl (lv_at hl 1 rfl) ?_
  have hPc := hP.sub (ws' := [(h0, .inr (11, [.ref a0, .ref a1, .ref a2, .ref a3, .ref a4, .ref a5, .int 0, .ref a7, .ref a8, .ref a9, .ref a10, .ref a11, .ref a12]))]) [0] rfl
  have hDc := hD.sub (ws' := [(h0, .inr (11, [.ref a0, .ref a1, .ref a2, .ref a3, .ref a4, .ref a5, .int 0, .ref a7, .ref a8, .ref a9, .ref a10, .ref a11, .ref a12]))]) [0] (by decide) rfl
  refine vz_callSq (va_runV (As := [.int p0]) (rest := []) ⟨hx, hb, hml, hown, hts⟩ (c_tableAt l dC dI cy h0 a0 a1 a2 a3 a4 a5 a7 a8 a9 a10 a11 a12 p0 s.heap.size) (cwV 1 hts gX11_picked_X11_tableAt rfl rfl rfl (by decide +kernel) ⟨Nat.le_of_ble_eq_true rfl, Nat.le_of_ble_eq_true rfl⟩) (wp_V hK hN hPc hDc (va_recv hK hPc (ci := 11) (q0 := 0) rfl rfl)) rfl rfl hl.1 rfl (lv_room (Nat.le_of_ble_eq_true rfl)) dX11_picked_2 ⟨Nat.le_of_ble_eq_true rfl, Nat.le_of_ble_eq_true rfl⟩) (fun r_1 hw_1 => ?_)
  obtain rfl : r_1 = none := hw_1
  show W _ _ _ _ _ _ _ _ _ _ _ _ _ _ _ (F0 m 5 ls (.null :: []))
  refine lv_astoreN (lv' := [(4, .null), (0, .ref h0), (1, .int p0), (2, .int p1), (3, .int p2)]) hx hb dX11_picked_5 hl (by decide) rfl (fun ls hl => ?_)
  refine lv_aloadN hx hb dX11_picked_7 (lv_at hl 0 rfl) ?_
  refine lv_ifnullN (tgt := 23) hx hb dX11_picked_9 (by decide) ?_
  refine lv_iconst (v := (-1)) hx hb dX11_picked_23 (by decide) ?_
  change W _ _ _ _ _ _ _ _ _ _ _ _ _ _ _ (F0 m 24 ls [.int (-1)])
  exact W.iret (v := (-1)) hx hb hr (fun t ht hW => ⟨⟨(-1), (), rfl, (by first | rfl | (exfalso; omega)), trivial⟩, hS.F ht⟩) hS.2.2 dX11_picked_24
set_option maxHeartbeats 4000000 in
set_option maxRecDepth 100000 in
theorem c_keeperOf (l : Launch) (dC : Nat → ClassId) (dI : Nat → Nat → Nat) (cy : Nat → ClassId) (h0 : Nat) (a0 : Nat) (a1 : Nat) (a2 : Nat) (a3 : Nat) (a4 : Nat) (a5 : Nat) (a7 : Nat) (a8 : Nat) (a9 : Nat) (a10 : Nat) (a11 : Nat) (a12 : Nat) (p0 : Int32) (p1 : Int32) (p2 : Int32) (sz : Nat)  : Met l yX11_keeperOf wsX11_keeperOf ({ frames := 2, cells := 0, slots := 0, locals := 44 }) (va_Pc [.ref h0, .int p0, .int p1, .int p2] (wPre (dC, dI) cy [(h0, .inr (11, [.ref a0, .ref a1, .ref a2, .ref a3, .ref a4, .ref a5, .int 0, .ref a7, .ref a8, .ref a9, .ref a10, .ref a11, .ref a12]))] sz)) (va_Qi (fun (r : Int32) (u : Unit) => r = -1) (fun (u : Unit) t => True) (va_A [(h0, .inr (11, [.ref a0, .ref a1, .ref a2, .ref a3, .ref a4, .ref a5, .int 0, .ref a7, .ref a8, .ref a9, .ref a10, .ref a11, .ref a12]))] sz)) 0 0 (va_A [(h0, .inr (11, [.ref a0, .ref a1, .ref a2, .ref a3, .ref a4, .ref a5, .int 0, .ref a7, .ref a8, .ref a9, .ref a10, .ref a11, .ref a12]))] sz) := by
  refine Met.ofW (cc := cX11_keeperOf) (maxL := 5) (ret := (some .int)) (by decide) rfl ?_
  intro p e s m args below meth c s₁ B hml hv
  obtain ⟨rfl, hsz, hP, hK, hD0, hN⟩ := hv
  have hx := B.exec
  have hb := B.bytes
  have hr := B.returns
  have hts := atoms_spec (ws := wsX11_keeperOf) B.pre
  have hown : s.vm.findClass RX11 = some m.cls := findClass_of_methodNamed B.named
  have hlocks := B.notSynchronized
  subst hsz
  have hD := hD0.self (sz := s.heap.size)
  generalize hAe : va_A [(h0, .inr (11, [.ref a0, .ref a1, .ref a2, .ref a3, .ref a4, .ref a5, .int 0, .ref a7, .ref a8, .ref a9, .ref a10, .ref a11, .ref a12]))] s.heap.size = A at hD ⊢
  have hA : ∀ q : Nat, s.heap.size ≤ q → A q := fun q h => by rw [← hAe]; exact Or.inr h
  have hS : va_S A s.heap s.heap [] := va_S.rf
  have hl := lv_entry ([.ref h0, .int p0, .int p1, .int p2]) (n := 5) (Nat.le_of_ble_eq_true rfl)
  rw [lg_entry_eq]
  generalize (lg_sl ([.ref h0, .int p0, .int p1, .int p2]) ++ List.replicate (5 - (lg_sl ([.ref h0, .int p0, .int p1, .int p2])).length) Slot.unset).toArray = ls at hl ⊢
  have hl : lv_has ls 5 [(0, .ref h0), (1, .int p0), (2, .int p1), (3, .int p2)] := hl
  refine lv_aload_n hx hb dX11_keeperOf_0 rfl (lv_at hl 0 rfl) ?_
  change W _ _ _ _ _ _ _ _ _ _ _ _ _ _ _ (F0 m 1 ls [.ref h0])
  refine lv_iload_n hx hb dX11_keeperOf_1 rfl (lv_at hl 1 rfl) ?_
  have hPc := hP.sub (ws' := [(h0, .inr (11, [.ref a0, .ref a1, .ref a2, .ref a3, .ref a4, .ref a5, .int 0, .ref a7, .ref a8, .ref a9, .ref a10, .ref a11, .ref a12]))]) [0] rfl
  have hDc := hD.sub (ws' := [(h0, .inr (11, [.ref a0, .ref a1, .ref a2, .ref a3, .ref a4, .ref a5, .int 0, .ref a7, .ref a8, .ref a9, .ref a10, .ref a11, .ref a12]))]) [0] (by decide) rfl
  refine vz_callSq (va_runV (As := [.int p0]) (rest := []) ⟨hx, hb, hml, hown, hts⟩ (c_tableAt l dC dI cy h0 a0 a1 a2 a3 a4 a5 a7 a8 a9 a10 a11 a12 p0 s.heap.size) (cwV 1 hts gX11_keeperOf_X11_tableAt rfl rfl rfl (by decide +kernel) ⟨Nat.le_of_ble_eq_true rfl, Nat.le_of_ble_eq_true rfl⟩) (wp_V hK hN hPc hDc (va_recv hK hPc (ci := 11) (q0 := 0) rfl rfl)) rfl rfl hl.1 rfl (lv_room (Nat.le_of_ble_eq_true rfl)) dX11_keeperOf_2 ⟨Nat.le_of_ble_eq_true rfl, Nat.le_of_ble_eq_true rfl⟩) (fun r_1 hw_1 => ?_)
  obtain rfl : r_1 = none := hw_1
  show W _ _ _ _ _ _ _ _ _ _ _ _ _ _ _ (F0 m 5 ls (.null :: []))
  refine lv_astoreN (lv' := [(4, .null), (0, .ref h0), (1, .int p0), (2, .int p1), (3, .int p2)]) hx hb dX11_keeperOf_5 hl (by decide) rfl (fun ls hl => ?_)
  refine lv_aloadN hx hb dX11_keeperOf_7 (lv_at hl 0 rfl) ?_
  refine lv_ifnullN (tgt := 28) hx hb dX11_keeperOf_9 (by decide) ?_
  refine lv_iconst (v := (-1)) hx hb dX11_keeperOf_28 (by decide) ?_
  exact W.iret (v := (-1)) hx hb hr (fun t ht hW => ⟨⟨(-1), (), rfl, (by first | rfl | (exfalso; omega)), trivial⟩, hS.F ht⟩) hS.2.2 dX11_keeperOf_29
set_option maxHeartbeats 4000000 in
set_option maxRecDepth 100000 in
theorem c_tooFew (l : Launch) (dC : Nat → ClassId) (dI : Nat → Nat → Nat) (cy : Nat → ClassId) (h0 : Nat) (a0 : Nat) (a1 : Nat) (a2 : Nat) (a3 : Nat) (a4 : Nat) (a5 : Nat) (a7 : Nat) (a8 : Nat) (a9 : Nat) (a10 : Nat) (a11 : Nat) (a12 : Nat) (p0 : Int32) (sz : Nat)  : Met l yX11_tooFew wsX11_tooFew ({ frames := 2, cells := 0, slots := 0, locals := 44 }) (va_Pc [.ref h0, .int p0] (wPre (dC, dI) cy [(h0, .inr (11, [.ref a0, .ref a1, .ref a2, .ref a3, .ref a4, .ref a5, .int 0, .ref a7, .ref a8, .ref a9, .ref a10, .ref a11, .ref a12]))] sz)) (va_Qi (fun (r : Int32) (u : Unit) => r = -1) (fun (u : Unit) t => True) (va_A [(h0, .inr (11, [.ref a0, .ref a1, .ref a2, .ref a3, .ref a4, .ref a5, .int 0, .ref a7, .ref a8, .ref a9, .ref a10, .ref a11, .ref a12]))] sz)) 0 0 (va_A [(h0, .inr (11, [.ref a0, .ref a1, .ref a2, .ref a3, .ref a4, .ref a5, .int 0, .ref a7, .ref a8, .ref a9, .ref a10, .ref a11, .ref a12]))] sz) := by
  refine Met.ofW (cc := cX11_tooFew) (maxL := 5) (ret := (some .int)) (by decide) rfl ?_
  intro p e s m args below meth c s₁ B hml hv
  obtain ⟨rfl, hsz, hP, hK, hD0, hN⟩ := hv
  have hx := B.exec
  have hb := B.bytes
  have hr := B.returns
  have hts := atoms_spec (ws := wsX11_tooFew) B.pre
  have hown : s.vm.findClass RX11 = some m.cls := findClass_of_methodNamed B.named
  have hlocks := B.notSynchronized
  subst hsz
  have hD := hD0.self (sz := s.heap.size)
  generalize hAe : va_A [(h0, .inr (11, [.ref a0, .ref a1, .ref a2, .ref a3, .ref a4, .ref a5, .int 0, .ref a7, .ref a8, .ref a9, .ref a10, .ref a11, .ref a12]))] s.heap.size = A at hD ⊢
  have hA : ∀ q : Nat, s.heap.size ≤ q → A q := fun q h => by rw [← hAe]; exact Or.inr h
  have hS : va_S A s.heap s.heap [] := va_S.rf
  have hl := lv_entry ([.ref h0, .int p0]) (n := 5) (Nat.le_of_ble_eq_true rfl)
  rw [lg_entry_eq]
  generalize (lg_sl ([.ref h0, .int p0]) ++ List.replicate (5 - (lg_sl ([.ref h0, .int p0])).length) Slot.unset).toArray = ls at hl ⊢
  have hl : lv_has ls 5 [(0, .ref h0), (1, .int p0)] := hl
  refine lv_aload_n hx hb dX11_tooFew_0 rfl (lv_at hl 0 rfl) ?_
  refine lv_iload_n hx hb dX11_tooFew_1 rfl (lv_at hl 1 rfl) ?_
  have hPc := hP.sub (ws' := [(h0, .inr (11, [.ref a0, .ref a1, .ref a2, .ref a3, .ref a4, .ref a5, .int 0, .ref a7, .ref a8, .ref a9, .ref a10, .ref a11, .ref a12]))]) [0] rfl
  have hDc := hD.sub (ws' := [(h0, .inr (11, [.ref a0, .ref a1, .ref a2, .ref a3, .ref a4, .ref a5, .int 0, .ref a7, .ref a8, .ref a9, .ref a10, .ref a11, .ref a12]))]) [0] (by decide) rfl
  refine vz_callSq (va_runV (As := [.int p0]) (rest := []) ⟨hx, hb, hml, hown, hts⟩ (c_tableAt l dC dI cy h0 a0 a1 a2 a3 a4 a5 a7 a8 a9 a10 a11 a12 p0 s.heap.size) (cwV 1 hts gX11_tooFew_X11_tableAt rfl rfl rfl (by decide +kernel) ⟨Nat.le_of_ble_eq_true rfl, Nat.le_of_ble_eq_true rfl⟩) (wp_V hK hN hPc hDc (va_recv hK hPc (ci := 11) (q0 := 0) rfl rfl)) rfl rfl hl.1 rfl (lv_room (Nat.le_of_ble_eq_true rfl)) dX11_tooFew_2 ⟨Nat.le_of_ble_eq_true rfl, Nat.le_of_ble_eq_true rfl⟩) (fun r_1 hw_1 => ?_)
  obtain rfl : r_1 = none := hw_1
  show W _ _ _ _ _ _ _ _ _ _ _ _ _ _ _ (F0 m 5 ls (.null :: []))
  change W _ _ _ _ _ _ _ _ _ _ _ _ _ _ _ (F0 m 5 ls [.null])
  refine lv_astore_nN (lv' := [(2, .null), (0, .ref h0), (1, .int p0)]) hx hb dX11_tooFew_5 rfl hl (by decide) rfl (fun ls hl => ?_)
  refine lv_aload_nN hx hb dX11_tooFew_6 rfl (lv_at hl 0 rfl) ?_
  refine lv_ifnonnullN hx hb dX11_tooFew_7 ?_
  refine lv_iconst (v := (-1)) hx hb dX11_tooFew_10 (by decide) ?_
  exact W.iret (v := (-1)) hx hb hr (fun t ht hW => ⟨⟨(-1), (), rfl, (by first | rfl | (exfalso; omega)), trivial⟩, hS.F ht⟩) hS.2.2 dX11_tooFew_11
set_option maxHeartbeats 4000000 in
set_option maxRecDepth 100000 in
theorem c_share (l : Launch) (dC : Nat → ClassId) (dI : Nat → Nat → Nat) (cy : Nat → ClassId) (h0 : Nat) (a0 : Nat) (a1 : Nat) (a2 : Nat) (a3 : Nat) (a4 : Nat) (a5 : Nat) (a7 : Nat) (a8 : Nat) (a9 : Nat) (a10 : Nat) (a11 : Nat) (a12 : Nat) (p0 : Int32) (p1 : Int32) (p2 : Int32) (sz : Nat)  : Met l yX11_share wsX11_share ({ frames := 2, cells := 0, slots := 0, locals := 44 }) (va_Pc [.ref h0, .int p0, .int p1, .int p2] (wPre (dC, dI) cy [(h0, .inr (11, [.ref a0, .ref a1, .ref a2, .ref a3, .ref a4, .ref a5, .int 0, .ref a7, .ref a8, .ref a9, .ref a10, .ref a11, .ref a12]))] sz)) (va_Qi (fun (r : Int32) (u : Unit) => r = -1) (fun (u : Unit) t => True) (va_A [(h0, .inr (11, [.ref a0, .ref a1, .ref a2, .ref a3, .ref a4, .ref a5, .int 0, .ref a7, .ref a8, .ref a9, .ref a10, .ref a11, .ref a12]))] sz)) 0 0 (va_A [(h0, .inr (11, [.ref a0, .ref a1, .ref a2, .ref a3, .ref a4, .ref a5, .int 0, .ref a7, .ref a8, .ref a9, .ref a10, .ref a11, .ref a12]))] sz) := by
  refine Met.ofW (cc := cX11_share) (maxL := 7) (ret := (some .int)) (by decide) rfl ?_
  intro p e s m args below meth c s₁ B hml hv
  obtain ⟨rfl, hsz, hP, hK, hD0, hN⟩ := hv
  have hx := B.exec
  have hb := B.bytes
  have hr := B.returns
  have hts := atoms_spec (ws := wsX11_share) B.pre
  have hown : s.vm.findClass RX11 = some m.cls := findClass_of_methodNamed B.named
  have hlocks := B.notSynchronized
  subst hsz
  have hD := hD0.self (sz := s.heap.size)
  generalize hAe : va_A [(h0, .inr (11, [.ref a0, .ref a1, .ref a2, .ref a3, .ref a4, .ref a5, .int 0, .ref a7, .ref a8, .ref a9, .ref a10, .ref a11, .ref a12]))] s.heap.size = A at hD ⊢
  have hA : ∀ q : Nat, s.heap.size ≤ q → A q := fun q h => by rw [← hAe]; exact Or.inr h
  have hS : va_S A s.heap s.heap [] := va_S.rf
  have hl := lv_entry ([.ref h0, .int p0, .int p1, .int p2]) (n := 7) (Nat.le_of_ble_eq_true rfl)
  rw [lg_entry_eq]
  generalize (lg_sl ([.ref h0, .int p0, .int p1, .int p2]) ++ List.replicate (7 - (lg_sl ([.ref h0, .int p0, .int p1, .int p2])).length) Slot.unset).toArray = ls at hl ⊢
  have hl : lv_has ls 7 [(0, .ref h0), (1, .int p0), (2, .int p1), (3, .int p2)] := hl
  refine lv_aload_n hx hb dX11_share_0 rfl (lv_at hl 0 rfl) ?_
  refine lv_iload_n hx hb dX11_share_1 rfl (lv_at hl 1 rfl) ?_
  have hPc := hP.sub (ws' := [(h0, .inr (11, [.ref a0, .ref a1, .ref a2, .ref a3, .ref a4, .ref a5, .int 0, .ref a7, .ref a8, .ref a9, .ref a10, .ref a11, .ref a12]))]) [0] rfl
  have hDc := hD.sub (ws' := [(h0, .inr (11, [.ref a0, .ref a1, .ref a2, .ref a3, .ref a4, .ref a5, .int 0, .ref a7, .ref a8, .ref a9, .ref a10, .ref a11, .ref a12]))]) [0] (by decide) rfl
  refine vz_callSq (va_runV (As := [.int p0]) (rest := []) ⟨hx, hb, hml, hown, hts⟩ (c_tableAt l dC dI cy h0 a0 a1 a2 a3 a4 a5 a7 a8 a9 a10 a11 a12 p0 s.heap.size) (cwV 1 hts gX11_share_X11_tableAt rfl rfl rfl (by decide +kernel) ⟨Nat.le_of_ble_eq_true rfl, Nat.le_of_ble_eq_true rfl⟩) (wp_V hK hN hPc hDc (va_recv hK hPc (ci := 11) (q0 := 0) rfl rfl)) rfl rfl hl.1 rfl (lv_room (Nat.le_of_ble_eq_true rfl)) dX11_share_2 ⟨Nat.le_of_ble_eq_true rfl, Nat.le_of_ble_eq_true rfl⟩) (fun r_1 hw_1 => ?_)
  obtain rfl : r_1 = none := hw_1
  show W _ _ _ _ _ _ _ _ _ _ _ _ _ _ _ (F0 m 5 ls (.null :: []))
  refine lv_astoreN (lv' := [(4, .null), (0, .ref h0), (1, .int p0), (2, .int p1), (3, .int p2)]) hx hb dX11_share_5 hl (by decide) rfl (fun ls hl => ?_)
  refine lv_aloadN hx hb dX11_share_7 (lv_at hl 0 rfl) ?_
  change W _ _ _ _ _ _ _ _ _ _ _ _ _ _ _ (F0 m 9 ls [.null])
  refine lv_ifnullN (tgt := 32) hx hb dX11_share_9 (by decide) ?_
  refine lv_iconst (v := (-1)) hx hb dX11_share_32 (by decide) ?_
  exact W.iret (v := (-1)) hx hb hr (fun t ht hW => ⟨⟨(-1), (), rfl, (by first | rfl | (exfalso; omega)), trivial⟩, hS.F ht⟩) hS.2.2 dX11_share_33
set_option maxHeartbeats 4000000 in
set_option maxRecDepth 100000 in
theorem c_moves (l : Launch) (dC : Nat → ClassId) (dI : Nat → Nat → Nat) (cy : Nat → ClassId) (h0 : Nat) (a0 : Nat) (a1 : Nat) (a2 : Nat) (a3 : Nat) (a4 : Nat) (a5 : Nat) (a7 : Nat) (a8 : Nat) (a9 : Nat) (a10 : Nat) (a11 : Nat) (a12 : Nat) (p0 : Int32) (p1 : Int32) (p2 : Int32) (sz : Nat)  : Met l yX11_moves wsX11_moves ({ frames := 2, cells := 0, slots := 0, locals := 44 }) (va_Pc [.ref h0, .int p0, .int p1, .int p2] (wPre (dC, dI) cy [(h0, .inr (11, [.ref a0, .ref a1, .ref a2, .ref a3, .ref a4, .ref a5, .int 0, .ref a7, .ref a8, .ref a9, .ref a10, .ref a11, .ref a12]))] sz)) (va_Qi (fun (r : Int32) (u : Unit) => r = -1) (fun (u : Unit) t => True) (va_A [(h0, .inr (11, [.ref a0, .ref a1, .ref a2, .ref a3, .ref a4, .ref a5, .int 0, .ref a7, .ref a8, .ref a9, .ref a10, .ref a11, .ref a12]))] sz)) 0 0 (va_A [(h0, .inr (11, [.ref a0, .ref a1, .ref a2, .ref a3, .ref a4, .ref a5, .int 0, .ref a7, .ref a8, .ref a9, .ref a10, .ref a11, .ref a12]))] sz) := by
  refine Met.ofW (cc := cX11_moves) (maxL := 11) (ret := (some .int)) (by decide) rfl ?_
  intro p e s m args below meth c s₁ B hml hv
  obtain ⟨rfl, hsz, hP, hK, hD0, hN⟩ := hv
  have hx := B.exec
  have hb := B.bytes
  have hr := B.returns
  have hts := atoms_spec (ws := wsX11_moves) B.pre
  have hown : s.vm.findClass RX11 = some m.cls := findClass_of_methodNamed B.named
  have hlocks := B.notSynchronized
  subst hsz
  have hD := hD0.self (sz := s.heap.size)
  generalize hAe : va_A [(h0, .inr (11, [.ref a0, .ref a1, .ref a2, .ref a3, .ref a4, .ref a5, .int 0, .ref a7, .ref a8, .ref a9, .ref a10, .ref a11, .ref a12]))] s.heap.size = A at hD ⊢
  have hA : ∀ q : Nat, s.heap.size ≤ q → A q := fun q h => by rw [← hAe]; exact Or.inr h
  have hS : va_S A s.heap s.heap [] := va_S.rf
  have hl := lv_entry ([.ref h0, .int p0, .int p1, .int p2]) (n := 11) (Nat.le_of_ble_eq_true rfl)
  rw [lg_entry_eq]
  generalize (lg_sl ([.ref h0, .int p0, .int p1, .int p2]) ++ List.replicate (11 - (lg_sl ([.ref h0, .int p0, .int p1, .int p2])).length) Slot.unset).toArray = ls at hl ⊢
  have hl : lv_has ls 11 [(0, .ref h0), (1, .int p0), (2, .int p1), (3, .int p2)] := hl
  refine lv_aload_n hx hb dX11_moves_0 rfl (lv_at hl 0 rfl) ?_
  refine lv_iload_n hx hb dX11_moves_1 rfl (lv_at hl 1 rfl) ?_
  have hPc := hP.sub (ws' := [(h0, .inr (11, [.ref a0, .ref a1, .ref a2, .ref a3, .ref a4, .ref a5, .int 0, .ref a7, .ref a8, .ref a9, .ref a10, .ref a11, .ref a12]))]) [0] rfl
  have hDc := hD.sub (ws' := [(h0, .inr (11, [.ref a0, .ref a1, .ref a2, .ref a3, .ref a4, .ref a5, .int 0, .ref a7, .ref a8, .ref a9, .ref a10, .ref a11, .ref a12]))]) [0] (by decide) rfl
  refine vz_callSq (va_runV (As := [.int p0]) (rest := []) ⟨hx, hb, hml, hown, hts⟩ (c_tableAt l dC dI cy h0 a0 a1 a2 a3 a4 a5 a7 a8 a9 a10 a11 a12 p0 s.heap.size) (cwV 1 hts gX11_moves_X11_tableAt rfl rfl rfl (by decide +kernel) ⟨Nat.le_of_ble_eq_true rfl, Nat.le_of_ble_eq_true rfl⟩) (wp_V hK hN hPc hDc (va_recv hK hPc (ci := 11) (q0 := 0) rfl rfl)) rfl rfl hl.1 rfl (lv_room (Nat.le_of_ble_eq_true rfl)) dX11_moves_2 ⟨Nat.le_of_ble_eq_true rfl, Nat.le_of_ble_eq_true rfl⟩) (fun r_1 hw_1 => ?_)
  obtain rfl : r_1 = none := hw_1
  show W _ _ _ _ _ _ _ _ _ _ _ _ _ _ _ (F0 m 5 ls (.null :: []))
  change W _ _ _ _ _ _ _ _ _ _ _ _ _ _ _ (F0 m 5 ls [.null])
  refine lv_astoreN (lv' := [(4, .null), (0, .ref h0), (1, .int p0), (2, .int p1), (3, .int p2)]) hx hb dX11_moves_5 hl (by decide) rfl (fun ls hl => ?_)
  refine lv_aload_n hx hb dX11_moves_7 rfl (lv_at hl 1 rfl) ?_
  refine lv_iload_n hx hb dX11_moves_8 rfl (lv_at hl 3 rfl) ?_
  have hPc := hP.sub (ws' := [(h0, .inr (11, [.ref a0, .ref a1, .ref a2, .ref a3, .ref a4, .ref a5, .int 0, .ref a7, .ref a8, .ref a9, .ref a10, .ref a11, .ref a12]))]) [0] rfl
  have hDc := hD.sub (ws' := [(h0, .inr (11, [.ref a0, .ref a1, .ref a2, .ref a3, .ref a4, .ref a5, .int 0, .ref a7, .ref a8, .ref a9, .ref a10, .ref a11, .ref a12]))]) [0] (by decide) rfl
  refine vz_callSq (va_runV (As := [.int p1]) (rest := []) ⟨hx, hb, hml, hown, hts⟩ (c_tableAt l dC dI cy h0 a0 a1 a2 a3 a4 a5 a7 a8 a9 a10 a11 a12 p1 s.heap.size) (cwV 1 hts gX11_moves_X11_tableAt rfl rfl rfl (by decide +kernel) ⟨Nat.le_of_ble_eq_true rfl, Nat.le_of_ble_eq_true rfl⟩) (wp_V hK hN hPc hDc (va_recv hK hPc (ci := 11) (q0 := 0) rfl rfl)) rfl rfl hl.1 rfl (lv_room (Nat.le_of_ble_eq_true rfl)) dX11_moves_9 ⟨Nat.le_of_ble_eq_true rfl, Nat.le_of_ble_eq_true rfl⟩) (fun r_2 hw_2 => ?_)
  obtain rfl : r_2 = none := hw_2
  show W _ _ _ _ _ _ _ _ _ _ _ _ _ _ _ (F0 m 12 ls (.null :: []))
  refine lv_astoreN (lv' := [(5, .null), (4, .null), (0, .ref h0), (1, .int p0), (2, .int p1), (3, .int p2)]) hx hb dX11_moves_12 hl (by decide) rfl (fun ls hl => ?_)
  refine lv_aloadN hx hb dX11_moves_14 (lv_at hl 1 rfl) ?_
  refine lv_ifnullN (tgt := 33) hx hb dX11_moves_16 (by decide) ?_
  refine lv_iconst (v := (-1)) hx hb dX11_moves_33 (by decide) ?_
  change W _ _ _ _ _ _ _ _ _ _ _ _ _ _ _ (F0 m 34 ls [.int (-1)])
  exact W.iret (v := (-1)) hx hb hr (fun t ht hW => ⟨⟨(-1), (), rfl, (by first | rfl | (exfalso; omega)), trivial⟩, hS.F ht⟩) hS.2.2 dX11_moves_34
set_option maxHeartbeats 4000000 in
set_option maxRecDepth 100000 in
theorem c_mend (l : Launch) (dC : Nat → ClassId) (dI : Nat → Nat → Nat) (cy : Nat → ClassId) (h0 : Nat) (a0 : Nat) (a1 : Nat) (a2 : Nat) (a3 : Nat) (a4 : Nat) (a5 : Nat) (a7 : Nat) (a8 : Nat) (a9 : Nat) (a10 : Nat) (a11 : Nat) (a12 : Nat) (p0 : Int32) (sz : Nat)  : Met l yX11_mend wsX11_mend ({ frames := 2, cells := 0, slots := 0, locals := 44 }) (va_Pc [.ref h0, .int p0] (wPre (dC, dI) cy [(h0, .inr (11, [.ref a0, .ref a1, .ref a2, .ref a3, .ref a4, .ref a5, .int 0, .ref a7, .ref a8, .ref a9, .ref a10, .ref a11, .ref a12]))] sz)) (va_Qi (fun (r : Int32) (u : Unit) => r = -1) (fun (u : Unit) t => True) (va_A [(h0, .inr (11, [.ref a0, .ref a1, .ref a2, .ref a3, .ref a4, .ref a5, .int 0, .ref a7, .ref a8, .ref a9, .ref a10, .ref a11, .ref a12]))] sz)) 0 0 (va_A [(h0, .inr (11, [.ref a0, .ref a1, .ref a2, .ref a3, .ref a4, .ref a5, .int 0, .ref a7, .ref a8, .ref a9, .ref a10, .ref a11, .ref a12]))] sz) := by
  refine Met.ofW (cc := cX11_mend) (maxL := 3) (ret := (some .int)) (by decide) rfl ?_
  intro p e s m args below meth c s₁ B hml hv
  obtain ⟨rfl, hsz, hP, hK, hD0, hN⟩ := hv
  have hx := B.exec
  have hb := B.bytes
  have hr := B.returns
  have hts := atoms_spec (ws := wsX11_mend) B.pre
  have hown : s.vm.findClass RX11 = some m.cls := findClass_of_methodNamed B.named
  have hlocks := B.notSynchronized
  subst hsz
  have hD := hD0.self (sz := s.heap.size)
  generalize hAe : va_A [(h0, .inr (11, [.ref a0, .ref a1, .ref a2, .ref a3, .ref a4, .ref a5, .int 0, .ref a7, .ref a8, .ref a9, .ref a10, .ref a11, .ref a12]))] s.heap.size = A at hD ⊢
  have hA : ∀ q : Nat, s.heap.size ≤ q → A q := fun q h => by rw [← hAe]; exact Or.inr h
  have hS : va_S A s.heap s.heap [] := va_S.rf
  have hl := lv_entry ([.ref h0, .int p0]) (n := 3) (Nat.le_of_ble_eq_true rfl)
  rw [lg_entry_eq]
  generalize (lg_sl ([.ref h0, .int p0]) ++ List.replicate (3 - (lg_sl ([.ref h0, .int p0])).length) Slot.unset).toArray = ls at hl ⊢
  have hl : lv_has ls 3 [(0, .ref h0), (1, .int p0)] := hl
  refine lv_aload_n hx hb dX11_mend_0 rfl (lv_at hl 0 rfl) ?_
  change W _ _ _ _ _ _ _ _ _ _ _ _ _ _ _ (F0 m 1 ls [.ref h0])
  refine lv_iload_n hx hb dX11_mend_1 rfl (lv_at hl 1 rfl) ?_
  have hPc := hP.sub (ws' := [(h0, .inr (11, [.ref a0, .ref a1, .ref a2, .ref a3, .ref a4, .ref a5, .int 0, .ref a7, .ref a8, .ref a9, .ref a10, .ref a11, .ref a12]))]) [0] rfl
  have hDc := hD.sub (ws' := [(h0, .inr (11, [.ref a0, .ref a1, .ref a2, .ref a3, .ref a4, .ref a5, .int 0, .ref a7, .ref a8, .ref a9, .ref a10, .ref a11, .ref a12]))]) [0] (by decide) rfl
  refine vz_callSq (va_runV (As := [.int p0]) (rest := []) ⟨hx, hb, hml, hown, hts⟩ (c_tableAt l dC dI cy h0 a0 a1 a2 a3 a4 a5 a7 a8 a9 a10 a11 a12 p0 s.heap.size) (cwV 1 hts gX11_mend_X11_tableAt rfl rfl rfl (by decide +kernel) ⟨Nat.le_of_ble_eq_true rfl, Nat.le_of_ble_eq_true rfl⟩) (wp_V hK hN hPc hDc (va_recv hK hPc (ci := 11) (q0 := 0) rfl rfl)) rfl rfl hl.1 rfl (lv_room (Nat.le_of_ble_eq_true rfl)) dX11_mend_2 ⟨Nat.le_of_ble_eq_true rfl, Nat.le_of_ble_eq_true rfl⟩) (fun r_1 hw_1 => ?_)
  obtain rfl : r_1 = none := hw_1
  show W _ _ _ _ _ _ _ _ _ _ _ _ _ _ _ (F0 m 5 ls (.null :: []))
  refine lv_astore_nN (lv' := [(2, .null), (0, .ref h0), (1, .int p0)]) hx hb dX11_mend_5 rfl hl (by decide) rfl (fun ls hl => ?_)
  refine lv_aload_nN hx hb dX11_mend_6 rfl (lv_at hl 0 rfl) ?_
  refine lv_ifnonnullN hx hb dX11_mend_7 ?_
  refine lv_iconst (v := (-1)) hx hb dX11_mend_10 (by decide) ?_
  exact W.iret (v := (-1)) hx hb hr (fun t ht hW => ⟨⟨(-1), (), rfl, (by first | rfl | (exfalso; omega)), trivial⟩, hS.F ht⟩) hS.2.2 dX11_mend_11
set_option maxHeartbeats 4000000 in
set_option maxRecDepth 100000 in
theorem c_noon (l : Launch) (dC : Nat → ClassId) (dI : Nat → Nat → Nat) (cy : Nat → ClassId) (h0 : Nat) (a0 : Nat) (a1 : Nat) (a2 : Nat) (a3 : Nat) (a4 : Nat) (a5 : Nat) (a7 : Nat) (a8 : Nat) (a9 : Nat) (a10 : Nat) (a11 : Nat) (a12 : Nat) (p0 : Int32) (p1 : Int32) (p2 : Int32) (sz : Nat)  : Met l yX11_noon wsX11_noon ({ frames := 2, cells := 0, slots := 0, locals := 44 }) (va_Pc [.ref h0, .int p0, .int p1, .int p2] (wPre (dC, dI) cy [(h0, .inr (11, [.ref a0, .ref a1, .ref a2, .ref a3, .ref a4, .ref a5, .int 0, .ref a7, .ref a8, .ref a9, .ref a10, .ref a11, .ref a12]))] sz)) (va_Qi (fun (r : Int32) (u : Unit) => r = -1) (fun (u : Unit) t => True) (va_A [(h0, .inr (11, [.ref a0, .ref a1, .ref a2, .ref a3, .ref a4, .ref a5, .int 0, .ref a7, .ref a8, .ref a9, .ref a10, .ref a11, .ref a12]))] sz)) 0 0 (va_A [(h0, .inr (11, [.ref a0, .ref a1, .ref a2, .ref a3, .ref a4, .ref a5, .int 0, .ref a7, .ref a8, .ref a9, .ref a10, .ref a11, .ref a12]))] sz) := by
  refine Met.ofW (cc := cX11_noon) (maxL := 7) (ret := (some .int)) (by decide) rfl ?_
  intro p e s m args below meth c s₁ B hml hv
  obtain ⟨rfl, hsz, hP, hK, hD0, hN⟩ := hv
  have hx := B.exec
  have hb := B.bytes
  have hr := B.returns
  have hts := atoms_spec (ws := wsX11_noon) B.pre
  have hown : s.vm.findClass RX11 = some m.cls := findClass_of_methodNamed B.named
  have hlocks := B.notSynchronized
  subst hsz
  have hD := hD0.self (sz := s.heap.size)
  generalize hAe : va_A [(h0, .inr (11, [.ref a0, .ref a1, .ref a2, .ref a3, .ref a4, .ref a5, .int 0, .ref a7, .ref a8, .ref a9, .ref a10, .ref a11, .ref a12]))] s.heap.size = A at hD ⊢
  have hA : ∀ q : Nat, s.heap.size ≤ q → A q := fun q h => by rw [← hAe]; exact Or.inr h
  have hS : va_S A s.heap s.heap [] := va_S.rf
  have hl := lv_entry ([.ref h0, .int p0, .int p1, .int p2]) (n := 7) (Nat.le_of_ble_eq_true rfl)
  rw [lg_entry_eq]
  generalize (lg_sl ([.ref h0, .int p0, .int p1, .int p2]) ++ List.replicate (7 - (lg_sl ([.ref h0, .int p0, .int p1, .int p2])).length) Slot.unset).toArray = ls at hl ⊢
  have hl : lv_has ls 7 [(0, .ref h0), (1, .int p0), (2, .int p1), (3, .int p2)] := hl
  refine lv_aload_n hx hb dX11_noon_0 rfl (lv_at hl 0 rfl) ?_
  refine lv_iload_n hx hb dX11_noon_1 rfl (lv_at hl 1 rfl) ?_
  have hPc := hP.sub (ws' := [(h0, .inr (11, [.ref a0, .ref a1, .ref a2, .ref a3, .ref a4, .ref a5, .int 0, .ref a7, .ref a8, .ref a9, .ref a10, .ref a11, .ref a12]))]) [0] rfl
  have hDc := hD.sub (ws' := [(h0, .inr (11, [.ref a0, .ref a1, .ref a2, .ref a3, .ref a4, .ref a5, .int 0, .ref a7, .ref a8, .ref a9, .ref a10, .ref a11, .ref a12]))]) [0] (by decide) rfl
  refine vz_callSq (va_runV (As := [.int p0]) (rest := []) ⟨hx, hb, hml, hown, hts⟩ (c_tableAt l dC dI cy h0 a0 a1 a2 a3 a4 a5 a7 a8 a9 a10 a11 a12 p0 s.heap.size) (cwV 1 hts gX11_noon_X11_tableAt rfl rfl rfl (by decide +kernel) ⟨Nat.le_of_ble_eq_true rfl, Nat.le_of_ble_eq_true rfl⟩) (wp_V hK hN hPc hDc (va_recv hK hPc (ci := 11) (q0 := 0) rfl rfl)) rfl rfl hl.1 rfl (lv_room (Nat.le_of_ble_eq_true rfl)) dX11_noon_2 ⟨Nat.le_of_ble_eq_true rfl, Nat.le_of_ble_eq_true rfl⟩) (fun r_1 hw_1 => ?_)
  obtain rfl : r_1 = none := hw_1
  show W _ _ _ _ _ _ _ _ _ _ _ _ _ _ _ (F0 m 5 ls (.null :: []))
  change W _ _ _ _ _ _ _ _ _ _ _ _ _ _ _ (F0 m 5 ls [.null])
  refine lv_astoreN (lv' := [(4, .null), (0, .ref h0), (1, .int p0), (2, .int p1), (3, .int p2)]) hx hb dX11_noon_5 hl (by decide) rfl (fun ls hl => ?_)
  refine lv_aloadN hx hb dX11_noon_7 (lv_at hl 0 rfl) ?_
  refine lv_ifnullN (tgt := 34) hx hb dX11_noon_9 (by decide) ?_
  refine lv_iconst (v := (-1)) hx hb dX11_noon_34 (by decide) ?_
  exact W.iret (v := (-1)) hx hb hr (fun t ht hW => ⟨⟨(-1), (), rfl, (by first | rfl | (exfalso; omega)), trivial⟩, hS.F ht⟩) hS.2.2 dX11_noon_35
set_option maxHeartbeats 4000000 in
set_option maxRecDepth 100000 in
theorem c_order (l : Launch) (dC : Nat → ClassId) (dI : Nat → Nat → Nat) (cy : Nat → ClassId) (h0 : Nat) (a0 : Nat) (a1 : Nat) (a2 : Nat) (a3 : Nat) (a4 : Nat) (a5 : Nat) (a7 : Nat) (a8 : Nat) (a9 : Nat) (a10 : Nat) (a11 : Nat) (a12 : Nat) (p0 : Int32) (sz : Nat)  : Met l yX11_order wsX11_order ({ frames := 2, cells := 0, slots := 0, locals := 44 }) (va_Pc [.ref h0, .int p0] (wPre (dC, dI) cy [(h0, .inr (11, [.ref a0, .ref a1, .ref a2, .ref a3, .ref a4, .ref a5, .int 0, .ref a7, .ref a8, .ref a9, .ref a10, .ref a11, .ref a12]))] sz)) (va_Qi (fun (r : Int32) (u : Unit) => r = -1) (fun (u : Unit) t => True) (va_A [(h0, .inr (11, [.ref a0, .ref a1, .ref a2, .ref a3, .ref a4, .ref a5, .int 0, .ref a7, .ref a8, .ref a9, .ref a10, .ref a11, .ref a12]))] sz)) 0 0 (va_A [(h0, .inr (11, [.ref a0, .ref a1, .ref a2, .ref a3, .ref a4, .ref a5, .int 0, .ref a7, .ref a8, .ref a9, .ref a10, .ref a11, .ref a12]))] sz) := by
  refine Met.ofW (cc := cX11_order) (maxL := 4) (ret := (some .int)) (by decide) rfl ?_
  intro p e s m args below meth c s₁ B hml hv
  obtain ⟨rfl, hsz, hP, hK, hD0, hN⟩ := hv
  have hx := B.exec
  have hb := B.bytes
  have hr := B.returns
  have hts := atoms_spec (ws := wsX11_order) B.pre
  have hown : s.vm.findClass RX11 = some m.cls := findClass_of_methodNamed B.named
  have hlocks := B.notSynchronized
  subst hsz
  have hD := hD0.self (sz := s.heap.size)
  generalize hAe : va_A [(h0, .inr (11, [.ref a0, .ref a1, .ref a2, .ref a3, .ref a4, .ref a5, .int 0, .ref a7, .ref a8, .ref a9, .ref a10, .ref a11, .ref a12]))] s.heap.size = A at hD ⊢
  have hA : ∀ q : Nat, s.heap.size ≤ q → A q := fun q h => by rw [← hAe]; exact Or.inr h
  have hS : va_S A s.heap s.heap [] := va_S.rf
  have hl := lv_entry ([.ref h0, .int p0]) (n := 4) (Nat.le_of_ble_eq_true rfl)
  rw [lg_entry_eq]
  generalize (lg_sl ([.ref h0, .int p0]) ++ List.replicate (4 - (lg_sl ([.ref h0, .int p0])).length) Slot.unset).toArray = ls at hl ⊢
  have hl : lv_has ls 4 [(0, .ref h0), (1, .int p0)] := hl
  refine lv_aload_n hx hb dX11_order_0 rfl (lv_at hl 0 rfl) ?_
  refine lv_iload_n hx hb dX11_order_1 rfl (lv_at hl 1 rfl) ?_
  have hPc := hP.sub (ws' := [(h0, .inr (11, [.ref a0, .ref a1, .ref a2, .ref a3, .ref a4, .ref a5, .int 0, .ref a7, .ref a8, .ref a9, .ref a10, .ref a11, .ref a12]))]) [0] rfl
  have hDc := hD.sub (ws' := [(h0, .inr (11, [.ref a0, .ref a1, .ref a2, .ref a3, .ref a4, .ref a5, .int 0, .ref a7, .ref a8, .ref a9, .ref a10, .ref a11, .ref a12]))]) [0] (by decide) rfl
  refine vz_callSq (va_runV (As := [.int p0]) (rest := []) ⟨hx, hb, hml, hown, hts⟩ (c_tableAt l dC dI cy h0 a0 a1 a2 a3 a4 a5 a7 a8 a9 a10 a11 a12 p0 s.heap.size) (cwV 1 hts gX11_order_X11_tableAt rfl rfl rfl (by decide +kernel) ⟨Nat.le_of_ble_eq_true rfl, Nat.le_of_ble_eq_true rfl⟩) (wp_V hK hN hPc hDc (va_recv hK hPc (ci := 11) (q0 := 0) rfl rfl)) rfl rfl hl.1 rfl (lv_room (Nat.le_of_ble_eq_true rfl)) dX11_order_2 ⟨Nat.le_of_ble_eq_true rfl, Nat.le_of_ble_eq_true rfl⟩) (fun r_1 hw_1 => ?_)
  obtain rfl : r_1 = none := hw_1
  show W _ _ _ _ _ _ _ _ _ _ _ _ _ _ _ (F0 m 5 ls (.null :: []))
  refine lv_astore_nN (lv' := [(2, .null), (0, .ref h0), (1, .int p0)]) hx hb dX11_order_5 rfl hl (by decide) rfl (fun ls hl => ?_)
  refine lv_aload_nN hx hb dX11_order_6 rfl (lv_at hl 0 rfl) ?_
  change W _ _ _ _ _ _ _ _ _ _ _ _ _ _ _ (F0 m 7 ls [.null])
  refine lv_ifnullN (tgt := 20) hx hb dX11_order_7 (by decide) ?_
  refine lv_iconst (v := (-1)) hx hb dX11_order_20 (by decide) ?_
  exact W.iret (v := (-1)) hx hb hr (fun t ht hW => ⟨⟨(-1), (), rfl, (by first | rfl | (exfalso; omega)), trivial⟩, hS.F ht⟩) hS.2.2 dX11_order_21
set_option maxHeartbeats 4000000 in
set_option maxRecDepth 100000 in
theorem c_harm (l : Launch) (dC : Nat → ClassId) (dI : Nat → Nat → Nat) (cy : Nat → ClassId) (h0 : Nat) (a0 : Nat) (a1 : Nat) (a2 : Nat) (a3 : Nat) (a4 : Nat) (a5 : Nat) (a7 : Nat) (a8 : Nat) (a9 : Nat) (a10 : Nat) (a11 : Nat) (a12 : Nat) (p0 : Int32) (sz : Nat)  : Met l yX11_harm wsX11_harm ({ frames := 2, cells := 0, slots := 0, locals := 44 }) (va_Pc [.ref h0, .int p0] (wPre (dC, dI) cy [(h0, .inr (11, [.ref a0, .ref a1, .ref a2, .ref a3, .ref a4, .ref a5, .int 0, .ref a7, .ref a8, .ref a9, .ref a10, .ref a11, .ref a12]))] sz)) (va_Qi (fun (r : Int32) (u : Unit) => r = -1) (fun (u : Unit) t => True) (va_A [(h0, .inr (11, [.ref a0, .ref a1, .ref a2, .ref a3, .ref a4, .ref a5, .int 0, .ref a7, .ref a8, .ref a9, .ref a10, .ref a11, .ref a12]))] sz)) 0 0 (va_A [(h0, .inr (11, [.ref a0, .ref a1, .ref a2, .ref a3, .ref a4, .ref a5, .int 0, .ref a7, .ref a8, .ref a9, .ref a10, .ref a11, .ref a12]))] sz) := by
  refine Met.ofW (cc := cX11_harm) (maxL := 3) (ret := (some .int)) (by decide) rfl ?_
  intro p e s m args below meth c s₁ B hml hv
  obtain ⟨rfl, hsz, hP, hK, hD0, hN⟩ := hv
  have hx := B.exec
  have hb := B.bytes
  have hr := B.returns
  have hts := atoms_spec (ws := wsX11_harm) B.pre
  have hown : s.vm.findClass RX11 = some m.cls := findClass_of_methodNamed B.named
  have hlocks := B.notSynchronized
  subst hsz
  have hD := hD0.self (sz := s.heap.size)
  generalize hAe : va_A [(h0, .inr (11, [.ref a0, .ref a1, .ref a2, .ref a3, .ref a4, .ref a5, .int 0, .ref a7, .ref a8, .ref a9, .ref a10, .ref a11, .ref a12]))] s.heap.size = A at hD ⊢
  have hA : ∀ q : Nat, s.heap.size ≤ q → A q := fun q h => by rw [← hAe]; exact Or.inr h
  have hS : va_S A s.heap s.heap [] := va_S.rf
  have hl := lv_entry ([.ref h0, .int p0]) (n := 3) (Nat.le_of_ble_eq_true rfl)
  rw [lg_entry_eq]
  generalize (lg_sl ([.ref h0, .int p0]) ++ List.replicate (3 - (lg_sl ([.ref h0, .int p0])).length) Slot.unset).toArray = ls at hl ⊢
  have hl : lv_has ls 3 [(0, .ref h0), (1, .int p0)] := hl
  refine lv_aload_n hx hb dX11_harm_0 rfl (lv_at hl 0 rfl) ?_
  refine lv_iload_n hx hb dX11_harm_1 rfl (lv_at hl 1 rfl) ?_
  have hPc := hP.sub (ws' := [(h0, .inr (11, [.ref a0, .ref a1, .ref a2, .ref a3, .ref a4, .ref a5, .int 0, .ref a7, .ref a8, .ref a9, .ref a10, .ref a11, .ref a12]))]) [0] rfl
  have hDc := hD.sub (ws' := [(h0, .inr (11, [.ref a0, .ref a1, .ref a2, .ref a3, .ref a4, .ref a5, .int 0, .ref a7, .ref a8, .ref a9, .ref a10, .ref a11, .ref a12]))]) [0] (by decide) rfl
  refine vz_callSq (va_runV (As := [.int p0]) (rest := []) ⟨hx, hb, hml, hown, hts⟩ (c_tableAt l dC dI cy h0 a0 a1 a2 a3 a4 a5 a7 a8 a9 a10 a11 a12 p0 s.heap.size) (cwV 1 hts gX11_harm_X11_tableAt rfl rfl rfl (by decide +kernel) ⟨Nat.le_of_ble_eq_true rfl, Nat.le_of_ble_eq_true rfl⟩) (wp_V hK hN hPc hDc (va_recv hK hPc (ci := 11) (q0 := 0) rfl rfl)) rfl rfl hl.1 rfl (lv_room (Nat.le_of_ble_eq_true rfl)) dX11_harm_2 ⟨Nat.le_of_ble_eq_true rfl, Nat.le_of_ble_eq_true rfl⟩) (fun r_1 hw_1 => ?_)
  obtain rfl : r_1 = none := hw_1
  show W _ _ _ _ _ _ _ _ _ _ _ _ _ _ _ (F0 m 5 ls (.null :: []))
  refine lv_astore_nN (lv' := [(2, .null), (0, .ref h0), (1, .int p0)]) hx hb dX11_harm_5 rfl hl (by decide) rfl (fun ls hl => ?_)
  refine lv_aload_nN hx hb dX11_harm_6 rfl (lv_at hl 0 rfl) ?_
  refine lv_ifnullN (tgt := 20) hx hb dX11_harm_7 (by decide) ?_
  refine lv_iconst (v := (-1)) hx hb dX11_harm_20 (by decide) ?_
  change W _ _ _ _ _ _ _ _ _ _ _ _ _ _ _ (F0 m 21 ls [.int (-1)])
  exact W.iret (v := (-1)) hx hb hr (fun t ht hW => ⟨⟨(-1), (), rfl, (by first | rfl | (exfalso; omega)), trivial⟩, hS.F ht⟩) hS.2.2 dX11_harm_21
set_option maxHeartbeats 4000000 in
set_option maxRecDepth 100000 in
theorem c_knows (l : Launch) (dC : Nat → ClassId) (dI : Nat → Nat → Nat) (cy : Nat → ClassId) (h0 : Nat) (a0 : Nat) (a1 : Nat) (a2 : Nat) (a3 : Nat) (a4 : Nat) (a5 : Nat) (a7 : Nat) (a8 : Nat) (a9 : Nat) (a10 : Nat) (a11 : Nat) (a12 : Nat) (k0 : Nat) (k1 : Nat) (k2 : Nat) (k3 : Nat) (k4 : Nat) (p0 : Int32) (p1 : Int32) (sz : Nat)  : Met l yX11_knows wsX11_knows ({ frames := 2, cells := 0, slots := 0, locals := 44 }) (va_Pc [.ref h0, .int p0, .int p1] (wPre (dC, dI) cy [(h0, .inr (11, [.ref a0, .ref a1, .ref a2, .ref a3, .ref a4, .ref a5, .int 0, .ref a7, .ref a8, .ref a9, .ref a10, .ref a11, .ref a12])), (a2, .inr (2, [.ref k0, .ref k1, .ref k2, .ref k3, .ref k4, .int 0]))] sz)) (va_Qi (fun (r : Int32) (u : Unit) => r = -2000000000) (fun (u : Unit) t => True) (va_A [(h0, .inr (11, [.ref a0, .ref a1, .ref a2, .ref a3, .ref a4, .ref a5, .int 0, .ref a7, .ref a8, .ref a9, .ref a10, .ref a11, .ref a12])), (a2, .inr (2, [.ref k0, .ref k1, .ref k2, .ref k3, .ref k4, .int 0]))] sz)) 0 0 (va_A [(h0, .inr (11, [.ref a0, .ref a1, .ref a2, .ref a3, .ref a4, .ref a5, .int 0, .ref a7, .ref a8, .ref a9, .ref a10, .ref a11, .ref a12])), (a2, .inr (2, [.ref k0, .ref k1, .ref k2, .ref k3, .ref k4, .int 0]))] sz) := by
  refine Met.ofW (cc := cX11_knows) (maxL := 4) (ret := (some .int)) (by decide) rfl ?_
  intro p e s m args below meth c s₁ B hml hv
  obtain ⟨rfl, hsz, hP, hK, hD0, hN⟩ := hv
  have hx := B.exec
  have hb := B.bytes
  have hr := B.returns
  have hts := atoms_spec (ws := wsX11_knows) B.pre
  have hown : s.vm.findClass RX11 = some m.cls := findClass_of_methodNamed B.named
  have hlocks := B.notSynchronized
  subst hsz
  have hD := hD0.self (sz := s.heap.size)
  generalize hAe : va_A [(h0, .inr (11, [.ref a0, .ref a1, .ref a2, .ref a3, .ref a4, .ref a5, .int 0, .ref a7, .ref a8, .ref a9, .ref a10, .ref a11, .ref a12])), (a2, .inr (2, [.ref k0, .ref k1, .ref k2, .ref k3, .ref k4, .int 0]))] s.heap.size = A at hD ⊢
  have hA : ∀ q : Nat, s.heap.size ≤ q → A q := fun q h => by rw [← hAe]; exact Or.inr h
  have hS : va_S A s.heap s.heap [] := va_S.rf
  have hl := lv_entry ([.ref h0, .int p0, .int p1]) (n := 4) (Nat.le_of_ble_eq_true rfl)
  rw [lg_entry_eq]
  generalize (lg_sl ([.ref h0, .int p0, .int p1]) ++ List.replicate (4 - (lg_sl ([.ref h0, .int p0, .int p1])).length) Slot.unset).toArray = ls at hl ⊢
  have hl : lv_has ls 4 [(0, .ref h0), (1, .int p0), (2, .int p1)] := hl
  refine lv_aload_n hx hb dX11_knows_0 rfl (lv_at hl 0 rfl) ?_
  refine va_get (D := (dC, dI)) (ci := 11) (v := .ref a2) (C := RX11) (T := TX11) (N := 13) hx hb hts (fun _ h9 => List.mem_cons_of_mem _ (List.mem_append_left _ (List.mem_append_right _ h9))) hown hK hP 0 rfl rfl 2 (by decide) (hts (.fieldLink RX11 26 "SeatsRound" "keepers" "LSeatsRound$Keepers;") (List.mem_of_getElem? (i := 1) rfl)) (fun _ h9 => h9) rfl dX11_knows_1 ?_
  change W _ _ _ _ _ _ _ _ _ _ _ _ _ _ _ (F0 m 4 ls [.ref a2])
  refine lv_iload_n hx hb dX11_knows_4 rfl (lv_at hl 1 rfl) ?_
  have hPc := hP.sub (ws' := [(a2, .inr (2, [.ref k0, .ref k1, .ref k2, .ref k3, .ref k4, .int 0]))]) [1] rfl
  have hDc := hD.sub (ws' := [(a2, .inr (2, [.ref k0, .ref k1, .ref k2, .ref k3, .ref k4, .int 0]))]) [1] (by decide) rfl
  refine vz_callSi (va_runV (As := [.int p0]) (rest := []) ⟨hx, hb, hml, hown, hts⟩ (c_KP_has l dC dI cy a2 k0 k1 k2 k3 k4 p0 s.heap.size) (cwV 1 hts gX11_knows_X2_has rfl rfl rfl (by decide +kernel) ⟨Nat.le_of_ble_eq_true rfl, Nat.le_of_ble_eq_true rfl⟩) (wp_V hK hN hPc hDc (va_recv hK hPc (ci := 2) (q0 := 0) rfl rfl)) rfl rfl hl.1 rfl (lv_room (Nat.le_of_ble_eq_true rfl)) dX11_knows_5 ⟨Nat.le_of_ble_eq_true rfl, Nat.le_of_ble_eq_true rfl⟩) (fun r_1 hw_1 => ?_)
  obtain rfl : r_1 = 0 := hw_1
  refine lv_if_eq (tgt := 24) hx hb dX11_knows_8 (by decide) (fun _ => ?_) (fun c_2 => absurd c_2 (by decide))
  refine lv_ldc hx hb hown (hts (.constant RX11 152 (-2000000000)) (List.mem_of_getElem? (i := 3) rfl)) dX11_knows_24 ?_
  exact W.iret (v := (-2000000000)) hx hb hr (fun t ht hW => ⟨⟨(-2000000000), (), rfl, (by first | rfl | (exfalso; omega)), trivial⟩, hS.F ht⟩) hS.2.2 dX11_knows_26
set_option maxHeartbeats 4000000 in
set_option maxRecDepth 100000 in
theorem c_write (l : Launch) (dC : Nat → ClassId) (dI : Nat → Nat → Nat) (cy : Nat → ClassId) (h0 : Nat) (a0 : Nat) (a1 : Nat) (a2 : Nat) (a3 : Nat) (a4 : Nat) (a5 : Nat) (a7 : Nat) (a8 : Nat) (a9 : Nat) (a10 : Nat) (a11 : Nat) (a12 : Nat) (k0 : Nat) (k1 : Nat) (k2 : Nat) (k3 : Nat) (k4 : Nat) (p0 : Int32) (p1 : Int32) (sz : Nat)  : Met l yX11_write wsX11_write ({ frames := 2, cells := 0, slots := 0, locals := 44 }) (va_Pc [.ref h0, .int p0, .int p1] (wPre (dC, dI) cy [(h0, .inr (11, [.ref a0, .ref a1, .ref a2, .ref a3, .ref a4, .ref a5, .int 0, .ref a7, .ref a8, .ref a9, .ref a10, .ref a11, .ref a12])), (a2, .inr (2, [.ref k0, .ref k1, .ref k2, .ref k3, .ref k4, .int 0]))] sz)) (va_Qi (fun (r : Int32) (u : Unit) => r = -1) (fun (u : Unit) t => True) (va_A [(h0, .inr (11, [.ref a0, .ref a1, .ref a2, .ref a3, .ref a4, .ref a5, .int 0, .ref a7, .ref a8, .ref a9, .ref a10, .ref a11, .ref a12])), (a2, .inr (2, [.ref k0, .ref k1, .ref k2, .ref k3, .ref k4, .int 0]))] sz)) 0 0 (va_A [(h0, .inr (11, [.ref a0, .ref a1, .ref a2, .ref a3, .ref a4, .ref a5, .int 0, .ref a7, .ref a8, .ref a9, .ref a10, .ref a11, .ref a12])), (a2, .inr (2, [.ref k0, .ref k1, .ref k2, .ref k3, .ref k4, .int 0]))] sz) := by
  refine Met.ofW (cc := cX11_write) (maxL := 4) (ret := (some .int)) (by decide) rfl ?_
  intro p e s m args below meth c s₁ B hml hv
  obtain ⟨rfl, hsz, hP, hK, hD0, hN⟩ := hv
  have hx := B.exec
  have hb := B.bytes
  have hr := B.returns
  have hts := atoms_spec (ws := wsX11_write) B.pre
  have hown : s.vm.findClass RX11 = some m.cls := findClass_of_methodNamed B.named
  have hlocks := B.notSynchronized
  subst hsz
  have hD := hD0.self (sz := s.heap.size)
  generalize hAe : va_A [(h0, .inr (11, [.ref a0, .ref a1, .ref a2, .ref a3, .ref a4, .ref a5, .int 0, .ref a7, .ref a8, .ref a9, .ref a10, .ref a11, .ref a12])), (a2, .inr (2, [.ref k0, .ref k1, .ref k2, .ref k3, .ref k4, .int 0]))] s.heap.size = A at hD ⊢
  have hA : ∀ q : Nat, s.heap.size ≤ q → A q := fun q h => by rw [← hAe]; exact Or.inr h
  have hS : va_S A s.heap s.heap [] := va_S.rf
  have hl := lv_entry ([.ref h0, .int p0, .int p1]) (n := 4) (Nat.le_of_ble_eq_true rfl)
  rw [lg_entry_eq]
  generalize (lg_sl ([.ref h0, .int p0, .int p1]) ++ List.replicate (4 - (lg_sl ([.ref h0, .int p0, .int p1])).length) Slot.unset).toArray = ls at hl ⊢
  have hl : lv_has ls 4 [(0, .ref h0), (1, .int p0), (2, .int p1)] := hl
  refine lv_aload_n hx hb dX11_write_0 rfl (lv_at hl 0 rfl) ?_
  refine va_get (D := (dC, dI)) (ci := 11) (v := .ref a2) (C := RX11) (T := TX11) (N := 13) hx hb hts (fun _ h9 => List.mem_cons_of_mem _ (List.mem_append_left _ (List.mem_append_left _ (List.mem_append_left _ (List.mem_append_left _ (List.mem_append_left _ (List.mem_append_right _ h9))))))) hown hK hP 0 rfl rfl 2 (by decide) (hts (.fieldLink RX11 26 "SeatsRound" "keepers" "LSeatsRound$Keepers;") (List.mem_of_getElem? (i := 1) rfl)) (fun _ h9 => h9) rfl dX11_write_1 ?_
  refine lv_iload_n hx hb dX11_write_4 rfl (lv_at hl 1 rfl) ?_
  have hPc := hP.sub (ws' := [(a2, .inr (2, [.ref k0, .ref k1, .ref k2, .ref k3, .ref k4, .int 0]))]) [1] rfl
  have hDc := hD.sub (ws' := [(a2, .inr (2, [.ref k0, .ref k1, .ref k2, .ref k3, .ref k4, .int 0]))]) [1] (by decide) rfl
  refine vz_callSi (va_runV (As := [.int p0]) (rest := []) ⟨hx, hb, hml, hown, hts⟩ (c_KP_has l dC dI cy a2 k0 k1 k2 k3 k4 p0 s.heap.size) (cwV 1 hts gX11_write_X2_has rfl rfl rfl (by decide +kernel) ⟨Nat.le_of_ble_eq_true rfl, Nat.le_of_ble_eq_true rfl⟩) (wp_V hK hN hPc hDc (va_recv hK hPc (ci := 2) (q0 := 0) rfl rfl)) rfl rfl hl.1 rfl (lv_room (Nat.le_of_ble_eq_true rfl)) dX11_write_5 ⟨Nat.le_of_ble_eq_true rfl, Nat.le_of_ble_eq_true rfl⟩) (fun r_1 hw_1 => ?_)
  obtain rfl : r_1 = 0 := hw_1
  refine lv_if_eq (tgt := 22) hx hb dX11_write_8 (by decide) (fun _ => ?_) (fun c_2 => absurd c_2 (by decide))
  refine lv_iconst (v := (-1)) hx hb dX11_write_22 (by decide) ?_
  change W _ _ _ _ _ _ _ _ _ _ _ _ _ _ _ (F0 m 23 ls [.int (-1)])
  exact W.iret (v := (-1)) hx hb hr (fun t ht hW => ⟨⟨(-1), (), rfl, (by first | rfl | (exfalso; omega)), trivial⟩, hS.F ht⟩) hS.2.2 dX11_write_23
set_option maxHeartbeats 4000000 in
set_option maxRecDepth 100000 in
theorem c_read (l : Launch) (dC : Nat → ClassId) (dI : Nat → Nat → Nat) (cy : Nat → ClassId) (h0 : Nat) (a0 : Nat) (a1 : Nat) (a2 : Nat) (a3 : Nat) (a4 : Nat) (a5 : Nat) (a7 : Nat) (a8 : Nat) (a9 : Nat) (a10 : Nat) (a11 : Nat) (a12 : Nat) (k0 : Nat) (k1 : Nat) (k2 : Nat) (k3 : Nat) (k4 : Nat) (p0 : Int32) (p1 : Int32) (sz : Nat)  : Met l yX11_read wsX11_read ({ frames := 2, cells := 0, slots := 0, locals := 44 }) (va_Pc [.ref h0, .int p0, .int p1] (wPre (dC, dI) cy [(h0, .inr (11, [.ref a0, .ref a1, .ref a2, .ref a3, .ref a4, .ref a5, .int 0, .ref a7, .ref a8, .ref a9, .ref a10, .ref a11, .ref a12])), (a2, .inr (2, [.ref k0, .ref k1, .ref k2, .ref k3, .ref k4, .int 0]))] sz)) (va_Qi (fun (r : Int32) (u : Unit) => r = -1) (fun (u : Unit) t => True) (va_A [(h0, .inr (11, [.ref a0, .ref a1, .ref a2, .ref a3, .ref a4, .ref a5, .int 0, .ref a7, .ref a8, .ref a9, .ref a10, .ref a11, .ref a12])), (a2, .inr (2, [.ref k0, .ref k1, .ref k2, .ref k3, .ref k4, .int 0]))] sz)) 0 0 (va_A [(h0, .inr (11, [.ref a0, .ref a1, .ref a2, .ref a3, .ref a4, .ref a5, .int 0, .ref a7, .ref a8, .ref a9, .ref a10, .ref a11, .ref a12])), (a2, .inr (2, [.ref k0, .ref k1, .ref k2, .ref k3, .ref k4, .int 0]))] sz) := by
  refine Met.ofW (cc := cX11_read) (maxL := 4) (ret := (some .int)) (by decide) rfl ?_
  intro p e s m args below meth c s₁ B hml hv
  obtain ⟨rfl, hsz, hP, hK, hD0, hN⟩ := hv
  have hx := B.exec
  have hb := B.bytes
  have hr := B.returns
  have hts := atoms_spec (ws := wsX11_read) B.pre
  have hown : s.vm.findClass RX11 = some m.cls := findClass_of_methodNamed B.named
  have hlocks := B.notSynchronized
  subst hsz
  have hD := hD0.self (sz := s.heap.size)
  generalize hAe : va_A [(h0, .inr (11, [.ref a0, .ref a1, .ref a2, .ref a3, .ref a4, .ref a5, .int 0, .ref a7, .ref a8, .ref a9, .ref a10, .ref a11, .ref a12])), (a2, .inr (2, [.ref k0, .ref k1, .ref k2, .ref k3, .ref k4, .int 0]))] s.heap.size = A at hD ⊢
  have hA : ∀ q : Nat, s.heap.size ≤ q → A q := fun q h => by rw [← hAe]; exact Or.inr h
  have hS : va_S A s.heap s.heap [] := va_S.rf
  have hl := lv_entry ([.ref h0, .int p0, .int p1]) (n := 4) (Nat.le_of_ble_eq_true rfl)
  rw [lg_entry_eq]
  generalize (lg_sl ([.ref h0, .int p0, .int p1]) ++ List.replicate (4 - (lg_sl ([.ref h0, .int p0, .int p1])).length) Slot.unset).toArray = ls at hl ⊢
  have hl : lv_has ls 4 [(0, .ref h0), (1, .int p0), (2, .int p1)] := hl
  refine lv_aload_n hx hb dX11_read_0 rfl (lv_at hl 0 rfl) ?_
  refine va_get (D := (dC, dI)) (ci := 11) (v := .ref a2) (C := RX11) (T := TX11) (N := 13) hx hb hts (fun _ h9 => List.mem_cons_of_mem _ (List.mem_append_left _ (List.mem_append_left _ (List.mem_append_left _ (List.mem_append_left _ (List.mem_append_left _ (List.mem_append_right _ h9))))))) hown hK hP 0 rfl rfl 2 (by decide) (hts (.fieldLink RX11 26 "SeatsRound" "keepers" "LSeatsRound$Keepers;") (List.mem_of_getElem? (i := 1) rfl)) (fun _ h9 => h9) rfl dX11_read_1 ?_
  change W _ _ _ _ _ _ _ _ _ _ _ _ _ _ _ (F0 m 4 ls [.ref a2])
  refine lv_iload_n hx hb dX11_read_4 rfl (lv_at hl 1 rfl) ?_
  have hPc := hP.sub (ws' := [(a2, .inr (2, [.ref k0, .ref k1, .ref k2, .ref k3, .ref k4, .int 0]))]) [1] rfl
  have hDc := hD.sub (ws' := [(a2, .inr (2, [.ref k0, .ref k1, .ref k2, .ref k3, .ref k4, .int 0]))]) [1] (by decide) rfl
  refine vz_callSi (va_runV (As := [.int p0]) (rest := []) ⟨hx, hb, hml, hown, hts⟩ (c_KP_has l dC dI cy a2 k0 k1 k2 k3 k4 p0 s.heap.size) (cwV 1 hts gX11_read_X2_has rfl rfl rfl (by decide +kernel) ⟨Nat.le_of_ble_eq_true rfl, Nat.le_of_ble_eq_true rfl⟩) (wp_V hK hN hPc hDc (va_recv hK hPc (ci := 2) (q0 := 0) rfl rfl)) rfl rfl hl.1 rfl (lv_room (Nat.le_of_ble_eq_true rfl)) dX11_read_5 ⟨Nat.le_of_ble_eq_true rfl, Nat.le_of_ble_eq_true rfl⟩) (fun r_1 hw_1 => ?_)
  obtain rfl : r_1 = 0 := hw_1
  refine lv_if_eq (tgt := 22) hx hb dX11_read_8 (by decide) (fun _ => ?_) (fun c_2 => absurd c_2 (by decide))
  refine lv_iconst (v := (-1)) hx hb dX11_read_22 (by decide) ?_
  exact W.iret (v := (-1)) hx hb hr (fun t ht hW => ⟨⟨(-1), (), rfl, (by first | rfl | (exfalso; omega)), trivial⟩, hS.F ht⟩) hS.2.2 dX11_read_23
set_option maxHeartbeats 4000000 in
set_option maxRecDepth 100000 in
theorem c_onShelf (l : Launch) (dC : Nat → ClassId) (dI : Nat → Nat → Nat) (cy : Nat → ClassId) (h0 : Nat) (a0 : Nat) (a1 : Nat) (a2 : Nat) (a3 : Nat) (a4 : Nat) (a5 : Nat) (a7 : Nat) (a8 : Nat) (a9 : Nat) (a10 : Nat) (a11 : Nat) (a12 : Nat) (k0 : Nat) (k1 : Nat) (k2 : Nat) (k3 : Nat) (k4 : Nat) (p0 : Int32) (p1 : Int32) (p2 : Int32) (sz : Nat)  : Met l yX11_onShelf wsX11_onShelf ({ frames := 2, cells := 0, slots := 0, locals := 44 }) (va_Pc [.ref h0, .int p0, .int p1, .int p2] (wPre (dC, dI) cy [(h0, .inr (11, [.ref a0, .ref a1, .ref a2, .ref a3, .ref a4, .ref a5, .int 0, .ref a7, .ref a8, .ref a9, .ref a10, .ref a11, .ref a12])), (a2, .inr (2, [.ref k0, .ref k1, .ref k2, .ref k3, .ref k4, .int 0]))] sz)) (va_Qi (fun (r : Int32) (u : Unit) => r = -1) (fun (u : Unit) t => True) (va_A [(h0, .inr (11, [.ref a0, .ref a1, .ref a2, .ref a3, .ref a4, .ref a5, .int 0, .ref a7, .ref a8, .ref a9, .ref a10, .ref a11, .ref a12])), (a2, .inr (2, [.ref k0, .ref k1, .ref k2, .ref k3, .ref k4, .int 0]))] sz)) 0 0 (va_A [(h0, .inr (11, [.ref a0, .ref a1, .ref a2, .ref a3, .ref a4, .ref a5, .int 0, .ref a7, .ref a8, .ref a9, .ref a10, .ref a11, .ref a12])), (a2, .inr (2, [.ref k0, .ref k1, .ref k2, .ref k3, .ref k4, .int 0]))] sz) := by
  refine Met.ofW (cc := cX11_onShelf) (maxL := 4) (ret := (some .int)) (by decide) rfl ?_
  intro p e s m args below meth c s₁ B hml hv
  obtain ⟨rfl, hsz, hP, hK, hD0, hN⟩ := hv
  have hx := B.exec
  have hb := B.bytes
  have hr := B.returns
  have hts := atoms_spec (ws := wsX11_onShelf) B.pre
  have hown : s.vm.findClass RX11 = some m.cls := findClass_of_methodNamed B.named
  have hlocks := B.notSynchronized
  subst hsz
  have hD := hD0.self (sz := s.heap.size)
  generalize hAe : va_A [(h0, .inr (11, [.ref a0, .ref a1, .ref a2, .ref a3, .ref a4, .ref a5, .int 0, .ref a7, .ref a8, .ref a9, .ref a10, .ref a11, .ref a12])), (a2, .inr (2, [.ref k0, .ref k1, .ref k2, .ref k3, .ref k4, .int 0]))] s.heap.size = A at hD ⊢
  have hA : ∀ q : Nat, s.heap.size ≤ q → A q := fun q h => by rw [← hAe]; exact Or.inr h
  have hS : va_S A s.heap s.heap [] := va_S.rf
  have hl := lv_entry ([.ref h0, .int p0, .int p1, .int p2]) (n := 4) (Nat.le_of_ble_eq_true rfl)
  rw [lg_entry_eq]
  generalize (lg_sl ([.ref h0, .int p0, .int p1, .int p2]) ++ List.replicate (4 - (lg_sl ([.ref h0, .int p0, .int p1, .int p2])).length) Slot.unset).toArray = ls at hl ⊢
  have hl : lv_has ls 4 [(0, .ref h0), (1, .int p0), (2, .int p1), (3, .int p2)] := hl
  refine lv_aload_n hx hb dX11_onShelf_0 rfl (lv_at hl 0 rfl) ?_
  refine va_get (D := (dC, dI)) (ci := 11) (v := .ref a2) (C := RX11) (T := TX11) (N := 13) hx hb hts (fun _ h9 => List.mem_cons_of_mem _ (List.mem_append_left _ (List.mem_append_left _ (List.mem_append_left _ (List.mem_append_right _ h9))))) hown hK hP 0 rfl rfl 2 (by decide) (hts (.fieldLink RX11 26 "SeatsRound" "keepers" "LSeatsRound$Keepers;") (List.mem_of_getElem? (i := 1) rfl)) (fun _ h9 => h9) rfl dX11_onShelf_1 ?_
  refine lv_iload_n hx hb dX11_onShelf_4 rfl (lv_at hl 1 rfl) ?_
  have hPc := hP.sub (ws' := [(a2, .inr (2, [.ref k0, .ref k1, .ref k2, .ref k3, .ref k4, .int 0]))]) [1] rfl
  have hDc := hD.sub (ws' := [(a2, .inr (2, [.ref k0, .ref k1, .ref k2, .ref k3, .ref k4, .int 0]))]) [1] (by decide) rfl
  refine vz_callSi (va_runV (As := [.int p0]) (rest := []) ⟨hx, hb, hml, hown, hts⟩ (c_KP_has l dC dI cy a2 k0 k1 k2 k3 k4 p0 s.heap.size) (cwV 1 hts gX11_onShelf_X2_has rfl rfl rfl (by decide +kernel) ⟨Nat.le_of_ble_eq_true rfl, Nat.le_of_ble_eq_true rfl⟩) (wp_V hK hN hPc hDc (va_recv hK hPc (ci := 2) (q0 := 0) rfl rfl)) rfl rfl hl.1 rfl (lv_room (Nat.le_of_ble_eq_true rfl)) dX11_onShelf_5 ⟨Nat.le_of_ble_eq_true rfl, Nat.le_of_ble_eq_true rfl⟩) (fun r_1 hw_1 => ?_)
  obtain rfl : r_1 = 0 := hw_1
  refine lv_if_eq (tgt := 22) hx hb dX11_onShelf_8 (by decide) (fun _ => ?_) (fun c_2 => absurd c_2 (by decide))
  refine lv_iconst (v := (-1)) hx hb dX11_onShelf_22 (by decide) ?_
  change W _ _ _ _ _ _ _ _ _ _ _ _ _ _ _ (F0 m 23 ls [.int (-1)])
  exact W.iret (v := (-1)) hx hb hr (fun t ht hW => ⟨⟨(-1), (), rfl, (by first | rfl | (exfalso; omega)), trivial⟩, hS.F ht⟩) hS.2.2 dX11_onShelf_23
set_option maxHeartbeats 4000000 in
set_option maxRecDepth 100000 in
theorem c_fall (l : Launch) (dC : Nat → ClassId) (dI : Nat → Nat → Nat) (cy : Nat → ClassId) (h0 : Nat) (a0 : Nat) (a1 : Nat) (a2 : Nat) (a3 : Nat) (a4 : Nat) (a5 : Nat) (a7 : Nat) (a8 : Nat) (a9 : Nat) (a10 : Nat) (a11 : Nat) (a12 : Nat) (k0 : Nat) (k1 : Nat) (k2 : Nat) (k3 : Nat) (k4 : Nat) (p0 : Int32) (p1 : Int32) (sz : Nat)  : Met l yX11_fall wsX11_fall ({ frames := 2, cells := 0, slots := 0, locals := 44 }) (va_Pc [.ref h0, .int p0, .int p1] (wPre (dC, dI) cy [(h0, .inr (11, [.ref a0, .ref a1, .ref a2, .ref a3, .ref a4, .ref a5, .int 0, .ref a7, .ref a8, .ref a9, .ref a10, .ref a11, .ref a12])), (a2, .inr (2, [.ref k0, .ref k1, .ref k2, .ref k3, .ref k4, .int 0]))] sz)) (va_Qi (fun (r : Int32) (u : Unit) => r = -1) (fun (u : Unit) t => True) (va_A [(h0, .inr (11, [.ref a0, .ref a1, .ref a2, .ref a3, .ref a4, .ref a5, .int 0, .ref a7, .ref a8, .ref a9, .ref a10, .ref a11, .ref a12])), (a2, .inr (2, [.ref k0, .ref k1, .ref k2, .ref k3, .ref k4, .int 0]))] sz)) 0 0 (va_A [(h0, .inr (11, [.ref a0, .ref a1, .ref a2, .ref a3, .ref a4, .ref a5, .int 0, .ref a7, .ref a8, .ref a9, .ref a10, .ref a11, .ref a12])), (a2, .inr (2, [.ref k0, .ref k1, .ref k2, .ref k3, .ref k4, .int 0]))] sz) := by
  refine Met.ofW (cc := cX11_fall) (maxL := 4) (ret := (some .int)) (by decide) rfl ?_
  intro p e s m args below meth c s₁ B hml hv
  obtain ⟨rfl, hsz, hP, hK, hD0, hN⟩ := hv
  have hx := B.exec
  have hb := B.bytes
  have hr := B.returns
  have hts := atoms_spec (ws := wsX11_fall) B.pre
  have hown : s.vm.findClass RX11 = some m.cls := findClass_of_methodNamed B.named
  have hlocks := B.notSynchronized
  subst hsz
  have hD := hD0.self (sz := s.heap.size)
  generalize hAe : va_A [(h0, .inr (11, [.ref a0, .ref a1, .ref a2, .ref a3, .ref a4, .ref a5, .int 0, .ref a7, .ref a8, .ref a9, .ref a10, .ref a11, .ref a12])), (a2, .inr (2, [.ref k0, .ref k1, .ref k2, .ref k3, .ref k4, .int 0]))] s.heap.size = A at hD ⊢
  have hA : ∀ q : Nat, s.heap.size ≤ q → A q := fun q h => by rw [← hAe]; exact Or.inr h
  have hS : va_S A s.heap s.heap [] := va_S.rf
  have hl := lv_entry ([.ref h0, .int p0, .int p1]) (n := 4) (Nat.le_of_ble_eq_true rfl)
  rw [lg_entry_eq]
  generalize (lg_sl ([.ref h0, .int p0, .int p1]) ++ List.replicate (4 - (lg_sl ([.ref h0, .int p0, .int p1])).length) Slot.unset).toArray = ls at hl ⊢
  have hl : lv_has ls 4 [(0, .ref h0), (1, .int p0), (2, .int p1)] := hl
  refine lv_aload_n hx hb dX11_fall_0 rfl (lv_at hl 0 rfl) ?_
  refine va_get (D := (dC, dI)) (ci := 11) (v := .ref a2) (C := RX11) (T := TX11) (N := 13) hx hb hts (fun _ h9 => List.mem_cons_of_mem _ (List.mem_append_left _ (List.mem_append_left _ (List.mem_append_right _ h9)))) hown hK hP 0 rfl rfl 2 (by decide) (hts (.fieldLink RX11 26 "SeatsRound" "keepers" "LSeatsRound$Keepers;") (List.mem_of_getElem? (i := 1) rfl)) (fun _ h9 => h9) rfl dX11_fall_1 ?_
  change W _ _ _ _ _ _ _ _ _ _ _ _ _ _ _ (F0 m 4 ls [.ref a2])
  refine lv_iload_n hx hb dX11_fall_4 rfl (lv_at hl 1 rfl) ?_
  have hPc := hP.sub (ws' := [(a2, .inr (2, [.ref k0, .ref k1, .ref k2, .ref k3, .ref k4, .int 0]))]) [1] rfl
  have hDc := hD.sub (ws' := [(a2, .inr (2, [.ref k0, .ref k1, .ref k2, .ref k3, .ref k4, .int 0]))]) [1] (by decide) rfl
  refine vz_callSi (va_runV (As := [.int p0]) (rest := []) ⟨hx, hb, hml, hown, hts⟩ (c_KP_has l dC dI cy a2 k0 k1 k2 k3 k4 p0 s.heap.size) (cwV 1 hts gX11_fall_X2_has rfl rfl rfl (by decide +kernel) ⟨Nat.le_of_ble_eq_true rfl, Nat.le_of_ble_eq_true rfl⟩) (wp_V hK hN hPc hDc (va_recv hK hPc (ci := 2) (q0 := 0) rfl rfl)) rfl rfl hl.1 rfl (lv_room (Nat.le_of_ble_eq_true rfl)) dX11_fall_5 ⟨Nat.le_of_ble_eq_true rfl, Nat.le_of_ble_eq_true rfl⟩) (fun r_1 hw_1 => ?_)
  obtain rfl : r_1 = 0 := hw_1
  refine lv_if_eq (tgt := 20) hx hb dX11_fall_8 (by decide) (fun _ => ?_) (fun c_2 => absurd c_2 (by decide))
  refine lv_iconst (v := (-1)) hx hb dX11_fall_20 (by decide) ?_
  exact W.iret (v := (-1)) hx hb hr (fun t ht hW => ⟨⟨(-1), (), rfl, (by first | rfl | (exfalso; omega)), trivial⟩, hS.F ht⟩) hS.2.2 dX11_fall_21
set_option maxHeartbeats 4000000 in
set_option maxRecDepth 100000 in
theorem c_half (l : Launch) (dC : Nat → ClassId) (dI : Nat → Nat → Nat) (cy : Nat → ClassId) (h0 : Nat) (a0 : Nat) (a1 : Nat) (a2 : Nat) (a3 : Nat) (a4 : Nat) (a5 : Nat) (a7 : Nat) (a8 : Nat) (a9 : Nat) (a10 : Nat) (a11 : Nat) (a12 : Nat) (c0 : Nat) (c1 : Nat) (c2 : Nat) (p0 : Int32) (p1 : Int32) (p2 : Int32) (sz : Nat)  : Met l yX11_half wsX11_half ({ frames := 2, cells := 0, slots := 0, locals := 44 }) (va_Pc [.ref h0, .int p0, .int p1, .int p2] (wPre (dC, dI) cy [(h0, .inr (11, [.ref a0, .ref a1, .ref a2, .ref a3, .ref a4, .ref a5, .int 0, .ref a7, .ref a8, .ref a9, .ref a10, .ref a11, .ref a12])), (a1, .inr (4, [.ref c0, .ref c1, .ref c2, .int 0]))] sz)) (va_Qi (fun (r : Int32) (u : Unit) => r = -1) (fun (u : Unit) t => True) (va_A [(h0, .inr (11, [.ref a0, .ref a1, .ref a2, .ref a3, .ref a4, .ref a5, .int 0, .ref a7, .ref a8, .ref a9, .ref a10, .ref a11, .ref a12])), (a1, .inr (4, [.ref c0, .ref c1, .ref c2, .int 0]))] sz)) 0 0 (va_A [(h0, .inr (11, [.ref a0, .ref a1, .ref a2, .ref a3, .ref a4, .ref a5, .int 0, .ref a7, .ref a8, .ref a9, .ref a10, .ref a11, .ref a12])), (a1, .inr (4, [.ref c0, .ref c1, .ref c2, .int 0]))] sz) := by
  refine Met.ofW (cc := cX11_half) (maxL := 4) (ret := (some .int)) (by decide) rfl ?_
  intro p e s m args below meth c s₁ B hml hv
  obtain ⟨rfl, hsz, hP, hK, hD0, hN⟩ := hv
  have hx := B.exec
  have hb := B.bytes
  have hr := B.returns
  have hts := atoms_spec (ws := wsX11_half) B.pre
  have hown : s.vm.findClass RX11 = some m.cls := findClass_of_methodNamed B.named
  have hlocks := B.notSynchronized
  subst hsz
  have hD := hD0.self (sz := s.heap.size)
  generalize hAe : va_A [(h0, .inr (11, [.ref a0, .ref a1, .ref a2, .ref a3, .ref a4, .ref a5, .int 0, .ref a7, .ref a8, .ref a9, .ref a10, .ref a11, .ref a12])), (a1, .inr (4, [.ref c0, .ref c1, .ref c2, .int 0]))] s.heap.size = A at hD ⊢
  have hA : ∀ q : Nat, s.heap.size ≤ q → A q := fun q h => by rw [← hAe]; exact Or.inr h
  have hS : va_S A s.heap s.heap [] := va_S.rf
  have hl := lv_entry ([.ref h0, .int p0, .int p1, .int p2]) (n := 4) (Nat.le_of_ble_eq_true rfl)
  rw [lg_entry_eq]
  generalize (lg_sl ([.ref h0, .int p0, .int p1, .int p2]) ++ List.replicate (4 - (lg_sl ([.ref h0, .int p0, .int p1, .int p2])).length) Slot.unset).toArray = ls at hl ⊢
  have hl : lv_has ls 4 [(0, .ref h0), (1, .int p0), (2, .int p1), (3, .int p2)] := hl
  refine lv_aload_n hx hb dX11_half_0 rfl (lv_at hl 0 rfl) ?_
  refine va_get (D := (dC, dI)) (ci := 11) (v := .ref a1) (C := RX11) (T := TX11) (N := 13) hx hb hts (fun _ h9 => List.mem_cons_of_mem _ (List.mem_append_left _ (List.mem_append_left _ (List.mem_append_left _ (List.mem_append_right _ h9))))) hown hK hP 0 rfl rfl 1 (by decide) (hts (.fieldLink RX11 19 "SeatsRound" "nameList" "LSeatsRound$NameList;") (List.mem_of_getElem? (i := 1) rfl)) (fun _ h9 => h9) rfl dX11_half_1 ?_
  refine lv_iload_n hx hb dX11_half_4 rfl (lv_at hl 1 rfl) ?_
  have hPc := hP.sub (ws' := [(a1, .inr (4, [.ref c0, .ref c1, .ref c2, .int 0]))]) [1] rfl
  have hDc := hD.sub (ws' := [(a1, .inr (4, [.ref c0, .ref c1, .ref c2, .int 0]))]) [1] (by decide) rfl
  refine vz_callSi (va_runV (As := [.int p0]) (rest := []) ⟨hx, hb, hml, hown, hts⟩ (c_NL_has l dC dI cy a1 c0 c1 c2 p0 s.heap.size) (cwV 1 hts gX11_half_X4_has rfl rfl rfl (by decide +kernel) ⟨Nat.le_of_ble_eq_true rfl, Nat.le_of_ble_eq_true rfl⟩) (wp_V hK hN hPc hDc (va_recv hK hPc (ci := 4) (q0 := 0) rfl rfl)) rfl rfl hl.1 rfl (lv_room (Nat.le_of_ble_eq_true rfl)) dX11_half_5 ⟨Nat.le_of_ble_eq_true rfl, Nat.le_of_ble_eq_true rfl⟩) (fun r_1 hw_1 => ?_)
  obtain rfl : r_1 = 0 := hw_1
  refine lv_if_eq (tgt := 38) hx hb dX11_half_8 (by decide) (fun _ => ?_) (fun c_2 => absurd c_2 (by decide))
  refine lv_iconst (v := (-1)) hx hb dX11_half_38 (by decide) ?_
  change W _ _ _ _ _ _ _ _ _ _ _ _ _ _ _ (F0 m 39 ls [.int (-1)])
  exact W.iret (v := (-1)) hx hb hr (fun t ht hW => ⟨⟨(-1), (), rfl, (by first | rfl | (exfalso; omega)), trivial⟩, hS.F ht⟩) hS.2.2 dX11_half_39
set_option maxHeartbeats 4000000 in
set_option maxRecDepth 100000 in
theorem c_trees (l : Launch) (dC : Nat → ClassId) (dI : Nat → Nat → Nat) (cy : Nat → ClassId) (h0 : Nat) (a0 : Nat) (a1 : Nat) (a2 : Nat) (a3 : Nat) (a4 : Nat) (a5 : Nat) (a7 : Nat) (a8 : Nat) (a9 : Nat) (a10 : Nat) (a11 : Nat) (a12 : Nat) (k0 : Nat) (k1 : Nat) (k2 : Nat) (k3 : Nat) (k4 : Nat) (p0 : Int32) (p1 : Int32) (p2 : Int32) (sz : Nat)  : Met l yX11_trees wsX11_trees ({ frames := 2, cells := 0, slots := 0, locals := 44 }) (va_Pc [.ref h0, .int p0, .int p1, .int p2] (wPre (dC, dI) cy [(h0, .inr (11, [.ref a0, .ref a1, .ref a2, .ref a3, .ref a4, .ref a5, .int 0, .ref a7, .ref a8, .ref a9, .ref a10, .ref a11, .ref a12])), (a2, .inr (2, [.ref k0, .ref k1, .ref k2, .ref k3, .ref k4, .int 0]))] sz)) (va_Qi (fun (r : Int32) (u : Unit) => r = -1) (fun (u : Unit) t => True) (va_A [(h0, .inr (11, [.ref a0, .ref a1, .ref a2, .ref a3, .ref a4, .ref a5, .int 0, .ref a7, .ref a8, .ref a9, .ref a10, .ref a11, .ref a12])), (a2, .inr (2, [.ref k0, .ref k1, .ref k2, .ref k3, .ref k4, .int 0]))] sz)) 0 0 (va_A [(h0, .inr (11, [.ref a0, .ref a1, .ref a2, .ref a3, .ref a4, .ref a5, .int 0, .ref a7, .ref a8, .ref a9, .ref a10, .ref a11, .ref a12])), (a2, .inr (2, [.ref k0, .ref k1, .ref k2, .ref k3, .ref k4, .int 0]))] sz) := by
  refine Met.ofW (cc := cX11_trees) (maxL := 4) (ret := (some .int)) (by decide) rfl ?_
  intro p e s m args below meth c s₁ B hml hv
  obtain ⟨rfl, hsz, hP, hK, hD0, hN⟩ := hv
  have hx := B.exec
  have hb := B.bytes
  have hr := B.returns
  have hts := atoms_spec (ws := wsX11_trees) B.pre
  have hown : s.vm.findClass RX11 = some m.cls := findClass_of_methodNamed B.named
  have hlocks := B.notSynchronized
  subst hsz
  have hD := hD0.self (sz := s.heap.size)
  generalize hAe : va_A [(h0, .inr (11, [.ref a0, .ref a1, .ref a2, .ref a3, .ref a4, .ref a5, .int 0, .ref a7, .ref a8, .ref a9, .ref a10, .ref a11, .ref a12])), (a2, .inr (2, [.ref k0, .ref k1, .ref k2, .ref k3, .ref k4, .int 0]))] s.heap.size = A at hD ⊢
  have hA : ∀ q : Nat, s.heap.size ≤ q → A q := fun q h => by rw [← hAe]; exact Or.inr h
  have hS : va_S A s.heap s.heap [] := va_S.rf
  have hl := lv_entry ([.ref h0, .int p0, .int p1, .int p2]) (n := 4) (Nat.le_of_ble_eq_true rfl)
  rw [lg_entry_eq]
  generalize (lg_sl ([.ref h0, .int p0, .int p1, .int p2]) ++ List.replicate (4 - (lg_sl ([.ref h0, .int p0, .int p1, .int p2])).length) Slot.unset).toArray = ls at hl ⊢
  have hl : lv_has ls 4 [(0, .ref h0), (1, .int p0), (2, .int p1), (3, .int p2)] := hl
  refine lv_aload_n hx hb dX11_trees_0 rfl (lv_at hl 0 rfl) ?_
  refine va_get (D := (dC, dI)) (ci := 11) (v := .ref a2) (C := RX11) (T := TX11) (N := 13) hx hb hts (fun _ h9 => List.mem_cons_of_mem _ (List.mem_append_left _ (List.mem_append_left _ (List.mem_append_left _ (List.mem_append_right _ h9))))) hown hK hP 0 rfl rfl 2 (by decide) (hts (.fieldLink RX11 26 "SeatsRound" "keepers" "LSeatsRound$Keepers;") (List.mem_of_getElem? (i := 1) rfl)) (fun _ h9 => h9) rfl dX11_trees_1 ?_
  change W _ _ _ _ _ _ _ _ _ _ _ _ _ _ _ (F0 m 4 ls [.ref a2])
  refine lv_iload_n hx hb dX11_trees_4 rfl (lv_at hl 1 rfl) ?_
  have hPc := hP.sub (ws' := [(a2, .inr (2, [.ref k0, .ref k1, .ref k2, .ref k3, .ref k4, .int 0]))]) [1] rfl
  have hDc := hD.sub (ws' := [(a2, .inr (2, [.ref k0, .ref k1, .ref k2, .ref k3, .ref k4, .int 0]))]) [1] (by decide) rfl
  refine vz_callSi (va_runV (As := [.int p0]) (rest := []) ⟨hx, hb, hml, hown, hts⟩ (c_KP_has l dC dI cy a2 k0 k1 k2 k3 k4 p0 s.heap.size) (cwV 1 hts gX11_trees_X2_has rfl rfl rfl (by decide +kernel) ⟨Nat.le_of_ble_eq_true rfl, Nat.le_of_ble_eq_true rfl⟩) (wp_V hK hN hPc hDc (va_recv hK hPc (ci := 2) (q0 := 0) rfl rfl)) rfl rfl hl.1 rfl (lv_room (Nat.le_of_ble_eq_true rfl)) dX11_trees_5 ⟨Nat.le_of_ble_eq_true rfl, Nat.le_of_ble_eq_true rfl⟩) (fun r_1 hw_1 => ?_)
  obtain rfl : r_1 = 0 := hw_1
  refine lv_if_eq (tgt := 27) hx hb dX11_trees_8 (by decide) (fun _ => ?_) (fun c_2 => absurd c_2 (by decide))
  refine lv_iconst (v := (-1)) hx hb dX11_trees_27 (by decide) ?_
  exact W.iret (v := (-1)) hx hb hr (fun t ht hW => ⟨⟨(-1), (), rfl, (by first | rfl | (exfalso; omega)), trivial⟩, hS.F ht⟩) hS.2.2 dX11_trees_28
set_option maxHeartbeats 4000000 in
set_option maxRecDepth 100000 in
theorem c_lies (l : Launch) (dC : Nat → ClassId) (dI : Nat → Nat → Nat) (cy : Nat → ClassId) (h0 : Nat) (a0 : Nat) (a1 : Nat) (a2 : Nat) (a3 : Nat) (a4 : Nat) (a5 : Nat) (a7 : Nat) (a8 : Nat) (a9 : Nat) (a10 : Nat) (a11 : Nat) (a12 : Nat) (k0 : Nat) (k1 : Nat) (k2 : Nat) (k3 : Nat) (k4 : Nat) (p0 : Int32) (p1 : Int32) (p2 : Int32) (p3 : Int32) (sz : Nat)  : Met l yX11_lies wsX11_lies ({ frames := 2, cells := 0, slots := 0, locals := 44 }) (va_Pc [.ref h0, .int p0, .int p1, .int p2, .int p3] (wPre (dC, dI) cy [(h0, .inr (11, [.ref a0, .ref a1, .ref a2, .ref a3, .ref a4, .ref a5, .int 0, .ref a7, .ref a8, .ref a9, .ref a10, .ref a11, .ref a12])), (a2, .inr (2, [.ref k0, .ref k1, .ref k2, .ref k3, .ref k4, .int 0]))] sz)) (va_Qi (fun (r : Int32) (u : Unit) => r = -1) (fun (u : Unit) t => True) (va_A [(h0, .inr (11, [.ref a0, .ref a1, .ref a2, .ref a3, .ref a4, .ref a5, .int 0, .ref a7, .ref a8, .ref a9, .ref a10, .ref a11, .ref a12])), (a2, .inr (2, [.ref k0, .ref k1, .ref k2, .ref k3, .ref k4, .int 0]))] sz)) 0 0 (va_A [(h0, .inr (11, [.ref a0, .ref a1, .ref a2, .ref a3, .ref a4, .ref a5, .int 0, .ref a7, .ref a8, .ref a9, .ref a10, .ref a11, .ref a12])), (a2, .inr (2, [.ref k0, .ref k1, .ref k2, .ref k3, .ref k4, .int 0]))] sz) := by
  refine Met.ofW (cc := cX11_lies) (maxL := 7) (ret := (some .int)) (by decide) rfl ?_
  intro p e s m args below meth c s₁ B hml hv
  obtain ⟨rfl, hsz, hP, hK, hD0, hN⟩ := hv
  have hx := B.exec
  have hb := B.bytes
  have hr := B.returns
  have hts := atoms_spec (ws := wsX11_lies) B.pre
  have hown : s.vm.findClass RX11 = some m.cls := findClass_of_methodNamed B.named
  have hlocks := B.notSynchronized
  subst hsz
  have hD := hD0.self (sz := s.heap.size)
  generalize hAe : va_A [(h0, .inr (11, [.ref a0, .ref a1, .ref a2, .ref a3, .ref a4, .ref a5, .int 0, .ref a7, .ref a8, .ref a9, .ref a10, .ref a11, .ref a12])), (a2, .inr (2, [.ref k0, .ref k1, .ref k2, .ref k3, .ref k4, .int 0]))] s.heap.size = A at hD ⊢
  have hA : ∀ q : Nat, s.heap.size ≤ q → A q := fun q h => by rw [← hAe]; exact Or.inr h
  have hS : va_S A s.heap s.heap [] := va_S.rf
  have hl := lv_entry ([.ref h0, .int p0, .int p1, .int p2, .int p3]) (n := 7) (Nat.le_of_ble_eq_true rfl)
  rw [lg_entry_eq]
  generalize (lg_sl ([.ref h0, .int p0, .int p1, .int p2, .int p3]) ++ List.replicate (7 - (lg_sl ([.ref h0, .int p0, .int p1, .int p2, .int p3])).length) Slot.unset).toArray = ls at hl ⊢
  have hl : lv_has ls 7 [(0, .ref h0), (1, .int p0), (2, .int p1), (3, .int p2), (4, .int p3)] := hl
  refine lv_aload_n hx hb dX11_lies_0 rfl (lv_at hl 0 rfl) ?_
  refine va_get (D := (dC, dI)) (ci := 11) (v := .ref a2) (C := RX11) (T := TX11) (N := 13) hx hb hts (fun _ h9 => List.mem_cons_of_mem _ (List.mem_append_left _ (List.mem_append_right _ h9))) hown hK hP 0 rfl rfl 2 (by decide) (hts (.fieldLink RX11 26 "SeatsRound" "keepers" "LSeatsRound$Keepers;") (List.mem_of_getElem? (i := 1) rfl)) (fun _ h9 => h9) rfl dX11_lies_1 ?_
  refine lv_iload_n hx hb dX11_lies_4 rfl (lv_at hl 1 rfl) ?_
  have hPc := hP.sub (ws' := [(a2, .inr (2, [.ref k0, .ref k1, .ref k2, .ref k3, .ref k4, .int 0]))]) [1] rfl
  have hDc := hD.sub (ws' := [(a2, .inr (2, [.ref k0, .ref k1, .ref k2, .ref k3, .ref k4, .int 0]))]) [1] (by decide) rfl
  refine vz_callSi (va_runV (As := [.int p0]) (rest := []) ⟨hx, hb, hml, hown, hts⟩ (c_KP_has l dC dI cy a2 k0 k1 k2 k3 k4 p0 s.heap.size) (cwV 1 hts gX11_lies_X2_has rfl rfl rfl (by decide +kernel) ⟨Nat.le_of_ble_eq_true rfl, Nat.le_of_ble_eq_true rfl⟩) (wp_V hK hN hPc hDc (va_recv hK hPc (ci := 2) (q0 := 0) rfl rfl)) rfl rfl hl.1 rfl (lv_room (Nat.le_of_ble_eq_true rfl)) dX11_lies_5 ⟨Nat.le_of_ble_eq_true rfl, Nat.le_of_ble_eq_true rfl⟩) (fun r_1 hw_1 => ?_)
  obtain rfl : r_1 = 0 := hw_1
  refine lv_if_eq (tgt := 26) hx hb dX11_lies_8 (by decide) (fun _ => ?_) (fun c_2 => absurd c_2 (by decide))
  refine lv_iconst (v := (-1)) hx hb dX11_lies_26 (by decide) ?_
  change W _ _ _ _ _ _ _ _ _ _ _ _ _ _ _ (F0 m 27 ls [.int (-1)])
  exact W.iret (v := (-1)) hx hb hr (fun t ht hW => ⟨⟨(-1), (), rfl, (by first | rfl | (exfalso; omega)), trivial⟩, hS.F ht⟩) hS.2.2 dX11_lies_27
set_option maxHeartbeats 4000000 in
set_option maxRecDepth 100000 in
theorem c_comes (l : Launch) (dC : Nat → ClassId) (dI : Nat → Nat → Nat) (cy : Nat → ClassId) (h0 : Nat) (a0 : Nat) (a1 : Nat) (a2 : Nat) (a3 : Nat) (a4 : Nat) (a5 : Nat) (a7 : Nat) (a8 : Nat) (a9 : Nat) (a10 : Nat) (a11 : Nat) (a12 : Nat) (k0 : Nat) (k1 : Nat) (k2 : Nat) (k3 : Nat) (k4 : Nat) (p0 : Int32) (sz : Nat)  : Met l yX11_comes wsX11_comes ({ frames := 2, cells := 0, slots := 0, locals := 44 }) (va_Pc [.ref h0, .int p0] (wPre (dC, dI) cy [(h0, .inr (11, [.ref a0, .ref a1, .ref a2, .ref a3, .ref a4, .ref a5, .int 0, .ref a7, .ref a8, .ref a9, .ref a10, .ref a11, .ref a12])), (a2, .inr (2, [.ref k0, .ref k1, .ref k2, .ref k3, .ref k4, .int 0]))] sz)) (va_Qi (fun (r : Int32) (u : Unit) => r = -1) (fun (u : Unit) t => True) (va_A [(h0, .inr (11, [.ref a0, .ref a1, .ref a2, .ref a3, .ref a4, .ref a5, .int 0, .ref a7, .ref a8, .ref a9, .ref a10, .ref a11, .ref a12])), (a2, .inr (2, [.ref k0, .ref k1, .ref k2, .ref k3, .ref k4, .int 0]))] sz)) 0 0 (va_A [(h0, .inr (11, [.ref a0, .ref a1, .ref a2, .ref a3, .ref a4, .ref a5, .int 0, .ref a7, .ref a8, .ref a9, .ref a10, .ref a11, .ref a12])), (a2, .inr (2, [.ref k0, .ref k1, .ref k2, .ref k3, .ref k4, .int 0]))] sz) := by
  refine Met.ofW (cc := cX11_comes) (maxL := 2) (ret := (some .int)) (by decide) rfl ?_
  intro p e s m args below meth c s₁ B hml hv
  obtain ⟨rfl, hsz, hP, hK, hD0, hN⟩ := hv
  have hx := B.exec
  have hb := B.bytes
  have hr := B.returns
  have hts := atoms_spec (ws := wsX11_comes) B.pre
  have hown : s.vm.findClass RX11 = some m.cls := findClass_of_methodNamed B.named
  have hlocks := B.notSynchronized
  subst hsz
  have hD := hD0.self (sz := s.heap.size)
  generalize hAe : va_A [(h0, .inr (11, [.ref a0, .ref a1, .ref a2, .ref a3, .ref a4, .ref a5, .int 0, .ref a7, .ref a8, .ref a9, .ref a10, .ref a11, .ref a12])), (a2, .inr (2, [.ref k0, .ref k1, .ref k2, .ref k3, .ref k4, .int 0]))] s.heap.size = A at hD ⊢
  have hA : ∀ q : Nat, s.heap.size ≤ q → A q := fun q h => by rw [← hAe]; exact Or.inr h
  have hS : va_S A s.heap s.heap [] := va_S.rf
  have hl := lv_entry ([.ref h0, .int p0]) (n := 2) (Nat.le_of_ble_eq_true rfl)
  rw [lg_entry_eq]
  generalize (lg_sl ([.ref h0, .int p0]) ++ List.replicate (2 - (lg_sl ([.ref h0, .int p0])).length) Slot.unset).toArray = ls at hl ⊢
  have hl : lv_has ls 2 [(0, .ref h0), (1, .int p0)] := hl
  refine lv_aload_n hx hb dX11_comes_0 rfl (lv_at hl 0 rfl) ?_
  refine va_get (D := (dC, dI)) (ci := 11) (v := .ref a2) (C := RX11) (T := TX11) (N := 13) hx hb hts (fun _ h9 => List.mem_cons_of_mem _ (List.mem_append_left _ (List.mem_append_left _ (List.mem_append_right _ h9)))) hown hK hP 0 rfl rfl 2 (by decide) (hts (.fieldLink RX11 26 "SeatsRound" "keepers" "LSeatsRound$Keepers;") (List.mem_of_getElem? (i := 1) rfl)) (fun _ h9 => h9) rfl dX11_comes_1 ?_
  change W _ _ _ _ _ _ _ _ _ _ _ _ _ _ _ (F0 m 4 ls [.ref a2])
  refine lv_iload_n hx hb dX11_comes_4 rfl (lv_at hl 1 rfl) ?_
  have hPc := hP.sub (ws' := [(a2, .inr (2, [.ref k0, .ref k1, .ref k2, .ref k3, .ref k4, .int 0]))]) [1] rfl
  have hDc := hD.sub (ws' := [(a2, .inr (2, [.ref k0, .ref k1, .ref k2, .ref k3, .ref k4, .int 0]))]) [1] (by decide) rfl
  refine vz_callSi (va_runV (As := [.int p0]) (rest := []) ⟨hx, hb, hml, hown, hts⟩ (c_KP_has l dC dI cy a2 k0 k1 k2 k3 k4 p0 s.heap.size) (cwV 1 hts gX11_comes_X2_has rfl rfl rfl (by decide +kernel) ⟨Nat.le_of_ble_eq_true rfl, Nat.le_of_ble_eq_true rfl⟩) (wp_V hK hN hPc hDc (va_recv hK hPc (ci := 2) (q0 := 0) rfl rfl)) rfl rfl hl.1 rfl (lv_room (Nat.le_of_ble_eq_true rfl)) dX11_comes_5 ⟨Nat.le_of_ble_eq_true rfl, Nat.le_of_ble_eq_true rfl⟩) (fun r_1 hw_1 => ?_)
  obtain rfl : r_1 = 0 := hw_1
  refine lv_if_eq (tgt := 22) hx hb dX11_comes_8 (by decide) (fun _ => ?_) (fun c_2 => absurd c_2 (by decide))
  refine lv_iconst (v := (-1)) hx hb dX11_comes_22 (by decide) ?_
  exact W.iret (v := (-1)) hx hb hr (fun t ht hW => ⟨⟨(-1), (), rfl, (by first | rfl | (exfalso; omega)), trivial⟩, hS.F ht⟩) hS.2.2 dX11_comes_23
set_option maxHeartbeats 4000000 in
set_option maxRecDepth 100000 in
theorem c_ordered (l : Launch) (dC : Nat → ClassId) (dI : Nat → Nat → Nat) (cy : Nat → ClassId) (h0 : Nat) (a0 : Nat) (a1 : Nat) (a2 : Nat) (a3 : Nat) (a4 : Nat) (a5 : Nat) (a7 : Nat) (a8 : Nat) (a9 : Nat) (a10 : Nat) (a11 : Nat) (a12 : Nat) (o0 : Nat) (o1 : Nat) (o2 : Nat) (o3 : Nat) (p0 : Int32) (sz : Nat)  : Met l yX11_ordered wsX11_ordered ({ frames := 1, cells := 0, slots := 0, locals := 23 }) (va_Pc [.ref h0, .int p0] (wPre (dC, dI) cy [(h0, .inr (11, [.ref a0, .ref a1, .ref a2, .ref a3, .ref a4, .ref a5, .int 0, .ref a7, .ref a8, .ref a9, .ref a10, .ref a11, .ref a12])), (a9, .inr (5, [.ref o0, .int 0, .ref o1, .int 0, .ref o2, .ref o3, .ref a2, .ref a1, .ref a4, .ref a3]))] sz)) (va_Qi (fun (r : Int32) (u : Unit) => r = -1) (fun (u : Unit) t => True) (va_A [(h0, .inr (11, [.ref a0, .ref a1, .ref a2, .ref a3, .ref a4, .ref a5, .int 0, .ref a7, .ref a8, .ref a9, .ref a10, .ref a11, .ref a12])), (a9, .inr (5, [.ref o0, .int 0, .ref o1, .int 0, .ref o2, .ref o3, .ref a2, .ref a1, .ref a4, .ref a3]))] sz)) 0 0 (va_A [(h0, .inr (11, [.ref a0, .ref a1, .ref a2, .ref a3, .ref a4, .ref a5, .int 0, .ref a7, .ref a8, .ref a9, .ref a10, .ref a11, .ref a12])), (a9, .inr (5, [.ref o0, .int 0, .ref o1, .int 0, .ref o2, .ref o3, .ref a2, .ref a1, .ref a4, .ref a3]))] sz) := by
  refine Met.ofW (cc := cX11_ordered) (maxL := 2) (ret := (some .int)) (by decide) rfl ?_
  intro p e s m args below meth c s₁ B hml hv
  obtain ⟨rfl, hsz, hP, hK, hD0, hN⟩ := hv
  have hx := B.exec
  have hb := B.bytes
  have hr := B.returns
  have hts := atoms_spec (ws := wsX11_ordered) B.pre
  have hown : s.vm.findClass RX11 = some m.cls := findClass_of_methodNamed B.named
  have hlocks := B.notSynchronized
  subst hsz
  have hD := hD0.self (sz := s.heap.size)
  generalize hAe : va_A [(h0, .inr (11, [.ref a0, .ref a1, .ref a2, .ref a3, .ref a4, .ref a5, .int 0, .ref a7, .ref a8, .ref a9, .ref a10, .ref a11, .ref a12])), (a9, .inr (5, [.ref o0, .int 0, .ref o1, .int 0, .ref o2, .ref o3, .ref a2, .ref a1, .ref a4, .ref a3]))] s.heap.size = A at hD ⊢
  have hA : ∀ q : Nat, s.heap.size ≤ q → A q := fun q h => by rw [← hAe]; exact Or.inr h
  have hS : va_S A s.heap s.heap [] := va_S.rf
  have hl := lv_entry ([.ref h0, .int p0]) (n := 2) (Nat.le_of_ble_eq_true rfl)
  rw [lg_entry_eq]
  generalize (lg_sl ([.ref h0, .int p0]) ++ List.replicate (2 - (lg_sl ([.ref h0, .int p0])).length) Slot.unset).toArray = ls at hl ⊢
  have hl : lv_has ls 2 [(0, .ref h0), (1, .int p0)] := hl
  refine lv_iload_n hx hb dX11_ordered_0 rfl (lv_at hl 1 rfl) ?_
  refine lv_if_lt (tgt := 27) hx hb dX11_ordered_1 (by decide) (fun c_1 => ?_) (fun c_1 => ?_)
  · have ic_1 : p0.toInt < (0 : Int) := Int32.lt_iff_toInt_lt.mp c_1
    refine lv_iconst (v := (-1)) hx hb dX11_ordered_27 (by decide) ?_
    exact W.iret (v := (-1)) hx hb hr (fun t ht hW => ⟨⟨(-1), (), rfl, (by first | rfl | (exfalso; omega)), trivial⟩, hS.F ht⟩) hS.2.2 dX11_ordered_28
  · have ic_1 : ¬ p0.toInt < (0 : Int) := fun h9 => c_1 (Int32.lt_iff_toInt_lt.mpr h9)
    refine lv_iload_n hx hb dX11_ordered_4 rfl (lv_at hl 1 rfl) ?_
    refine lv_aload_n hx hb dX11_ordered_5 rfl (lv_at hl 0 rfl) ?_
    refine va_get (D := (dC, dI)) (ci := 11) (v := .ref a9) (C := RX11) (T := TX11) (N := 13) hx hb hts (fun _ h9 => List.mem_cons_of_mem _ (List.mem_append_left _ (List.mem_append_right _ h9))) hown hK hP 0 rfl rfl 9 (by decide) (hts (.fieldLink RX11 75 "SeatsRound" "orders" "LSeatsRound$Orders;") (List.mem_of_getElem? (i := 1) rfl)) (fun _ h9 => h9) rfl dX11_ordered_6 ?_
    change W _ _ _ _ _ _ _ _ _ _ _ _ _ _ _ (F0 m 9 ls [.ref a9, .int p0])
    refine va_get (D := (dC, dI)) (ci := 5) (v := .int 0) (C := RX5) (T := TX5) (N := 10) hx hb hts (fun _ h9 => List.mem_cons_of_mem _ (List.mem_append_right _ h9)) hown hK hP 1 rfl rfl 3 (by decide) (hts (.fieldLink RX11 330 "SeatsRound$Orders" "pathLength" "I") (List.mem_of_getElem? (i := 2) rfl)) (fun _ h9 => h9) rfl dX11_ordered_9 ?_
    refine lv_icmp_ge (tgt := 27) hx hb dX11_ordered_12 (by decide) (fun c_2 => ?_) (fun c_2 => ?_)
    · have ic_2 : (0 : Int) ≤ p0.toInt := Int32.le_iff_toInt_le.mp c_2
      refine lv_iconst (v := (-1)) hx hb dX11_ordered_27 (by decide) ?_
      exact W.iret (v := (-1)) hx hb hr (fun t ht hW => ⟨⟨(-1), (), rfl, (by first | rfl | (exfalso; omega)), trivial⟩, hS.F ht⟩) hS.2.2 dX11_ordered_28
    · have ic_2 : ¬ (0 : Int) ≤ p0.toInt := fun h9 => c_2 (Int32.le_iff_toInt_le.mpr h9)
      exact absurd True.intro (by omega)
set_option maxHeartbeats 4000000 in
set_option maxRecDepth 100000 in
theorem c_turning (l : Launch) (dC : Nat → ClassId) (dI : Nat → Nat → Nat) (cy : Nat → ClassId) (h0 : Nat) (a0 : Nat) (a1 : Nat) (a2 : Nat) (a3 : Nat) (a4 : Nat) (a5 : Nat) (a7 : Nat) (a8 : Nat) (a9 : Nat) (a10 : Nat) (a11 : Nat) (a12 : Nat) (t0 : Nat) (t1 : Nat) (p0 : Int32) (sz : Nat)  : Met l yX11_turning wsX11_turning ({ frames := 1, cells := 0, slots := 0, locals := 23 }) (va_Pc [.ref h0, .int p0] (wPre (dC, dI) cy [(h0, .inr (11, [.ref a0, .ref a1, .ref a2, .ref a3, .ref a4, .ref a5, .int 0, .ref a7, .ref a8, .ref a9, .ref a10, .ref a11, .ref a12])), (a10, .inr (10, [.ref t0, .int 0, .int (-1), .ref t1, .ref a1])), (t0, .inl (cy 0, 6, .inl (fun _ => 0)))] sz)) (va_Qi (fun (r : Int32) (u : Unit) => r = 1) (fun (u : Unit) t => True) (va_A [(h0, .inr (11, [.ref a0, .ref a1, .ref a2, .ref a3, .ref a4, .ref a5, .int 0, .ref a7, .ref a8, .ref a9, .ref a10, .ref a11, .ref a12])), (a10, .inr (10, [.ref t0, .int 0, .int (-1), .ref t1, .ref a1])), (t0, .inl (cy 0, 6, .inl (fun _ => 0)))] sz)) 0 0 (va_A [(h0, .inr (11, [.ref a0, .ref a1, .ref a2, .ref a3, .ref a4, .ref a5, .int 0, .ref a7, .ref a8, .ref a9, .ref a10, .ref a11, .ref a12])), (a10, .inr (10, [.ref t0, .int 0, .int (-1), .ref t1, .ref a1])), (t0, .inl (cy 0, 6, .inl (fun _ => 0)))] sz) := by
  refine Met.ofW (cc := cX11_turning) (maxL := 2) (ret := (some .int)) (by decide) rfl ?_
  intro p e s m args below meth c s₁ B hml hv
  obtain ⟨rfl, hsz, hP, hK, hD0, hN⟩ := hv
  have hx := B.exec
  have hb := B.bytes
  have hr := B.returns
  have hts := atoms_spec (ws := wsX11_turning) B.pre
  have hown : s.vm.findClass RX11 = some m.cls := findClass_of_methodNamed B.named
  have hlocks := B.notSynchronized
  subst hsz
  have hD := hD0.self (sz := s.heap.size)
  generalize hAe : va_A [(h0, .inr (11, [.ref a0, .ref a1, .ref a2, .ref a3, .ref a4, .ref a5, .int 0, .ref a7, .ref a8, .ref a9, .ref a10, .ref a11, .ref a12])), (a10, .inr (10, [.ref t0, .int 0, .int (-1), .ref t1, .ref a1])), (t0, .inl (cy 0, 6, .inl (fun _ => 0)))] s.heap.size = A at hD ⊢
  have hA : ∀ q : Nat, s.heap.size ≤ q → A q := fun q h => by rw [← hAe]; exact Or.inr h
  have hS : va_S A s.heap s.heap [] := va_S.rf
  have hl := lv_entry ([.ref h0, .int p0]) (n := 2) (Nat.le_of_ble_eq_true rfl)
  rw [lg_entry_eq]
  generalize (lg_sl ([.ref h0, .int p0]) ++ List.replicate (2 - (lg_sl ([.ref h0, .int p0])).length) Slot.unset).toArray = ls at hl ⊢
  have hl : lv_has ls 2 [(0, .ref h0), (1, .int p0)] := hl
  refine lv_aload_n hx hb dX11_turning_0 rfl (lv_at hl 0 rfl) ?_
  refine va_get (D := (dC, dI)) (ci := 11) (v := .ref a10) (C := RX11) (T := TX11) (N := 13) hx hb hts (fun _ h9 => List.mem_cons_of_mem _ (List.mem_append_left _ (List.mem_append_right _ h9))) hown hK hP 0 rfl rfl 10 (by decide) (hts (.fieldLink RX11 84 "SeatsRound" "turnings" "LSeatsRound$Turnings;") (List.mem_of_getElem? (i := 1) rfl)) (fun _ h9 => h9) rfl dX11_turning_1 ?_
  refine va_get (D := (dC, dI)) (ci := 10) (v := .int 0) (C := RX10) (T := TX10) (N := 5) hx hb hts (fun _ h9 => List.mem_cons_of_mem _ (List.mem_append_right _ h9)) hown hK hP 1 rfl rfl 1 (by decide) (hts (.fieldLink RX11 336 "SeatsRound$Turnings" "count" "I") (List.mem_of_getElem? (i := 2) rfl)) (fun _ h9 => h9) rfl dX11_turning_4 ?_
  refine lv_bipush (v := 6) hx hb dX11_turning_7 (by decide) ?_
  refine lv_icmp_lt (tgt := 15) hx hb dX11_turning_9 (by decide) (fun _ => ?_) (fun c_1 => absurd c_1 (by decide))
  refine lv_aload_n hx hb dX11_turning_15 rfl (lv_at hl 0 rfl) ?_
  refine va_get (D := (dC, dI)) (ci := 11) (v := .ref a10) (C := RX11) (T := TX11) (N := 13) hx hb hts (fun _ h9 => List.mem_cons_of_mem _ (List.mem_append_left _ (List.mem_append_right _ h9))) hown hK hP 0 rfl rfl 10 (by decide) (hts (.fieldLink RX11 84 "SeatsRound" "turnings" "LSeatsRound$Turnings;") (List.mem_of_getElem? (i := 1) rfl)) (fun _ h9 => h9) rfl dX11_turning_16 ?_
  change W _ _ _ _ _ _ _ _ _ _ _ _ _ _ _ (F0 m 19 ls [.ref a10])
  refine va_get (D := (dC, dI)) (ci := 10) (v := .ref t0) (C := RX10) (T := TX10) (N := 5) hx hb hts (fun _ h9 => List.mem_cons_of_mem _ (List.mem_append_right _ h9)) hown hK hP 1 rfl rfl 0 (by decide) (hts (.fieldLink RX11 337 "SeatsRound$Turnings" "told" "[I") (List.mem_of_getElem? (i := 3) rfl)) (fun _ h9 => h9) rfl dX11_turning_19 ?_
  refine lv_aload_n hx hb dX11_turning_22 rfl (lv_at hl 0 rfl) ?_
  refine va_get (D := (dC, dI)) (ci := 11) (v := .ref a10) (C := RX11) (T := TX11) (N := 13) hx hb hts (fun _ h9 => List.mem_cons_of_mem _ (List.mem_append_left _ (List.mem_append_right _ h9))) hown hK hP 0 rfl rfl 10 (by decide) (hts (.fieldLink RX11 84 "SeatsRound" "turnings" "LSeatsRound$Turnings;") (List.mem_of_getElem? (i := 1) rfl)) (fun _ h9 => h9) rfl dX11_turning_23 ?_
  refine va_get (D := (dC, dI)) (ci := 10) (v := .int 0) (C := RX10) (T := TX10) (N := 5) hx hb hts (fun _ h9 => List.mem_cons_of_mem _ (List.mem_append_right _ h9)) hown hK hP 1 rfl rfl 1 (by decide) (hts (.fieldLink RX11 336 "SeatsRound$Turnings" "count" "I") (List.mem_of_getElem? (i := 2) rfl)) (fun _ h9 => h9) rfl dX11_turning_26 ?_
  refine lv_iload_n hx hb dX11_turning_29 rfl (lv_at hl 1 rfl) ?_
  refine va_iast hx hb hK hP hD hS 2 0 rfl rfl (vp_in_nI (n := 0) (N := 6) (by decide) (by decide)) dX11_turning_30 (fun H locs hP hD hS => ?_)
  generalize upd (fun _ => 0) (Int32.toNatClampNeg 0) p0 = g_2 at hP hD
  have hP : va_P (dC, dI) vwCl [(h0, .inr (11, [.ref a0, .ref a1, .ref a2, .ref a3, .ref a4, .ref a5, .int 0, .ref a7, .ref a8, .ref a9, .ref a10, .ref a11, .ref a12])), (a10, .inr (10, [.ref t0, .int 0, .int (-1), .ref t1, .ref a1])), (t0, .inl (cy 0, 6, .inl g_2))] H := hP
  have hD : va_D A [(h0, .inr (11, [.ref a0, .ref a1, .ref a2, .ref a3, .ref a4, .ref a5, .int 0, .ref a7, .ref a8, .ref a9, .ref a10, .ref a11, .ref a12])), (a10, .inr (10, [.ref t0, .int 0, .int (-1), .ref t1, .ref a1])), (t0, .inl (cy 0, 6, .inl g_2))] := hD
  refine lv_aload_n hx hb dX11_turning_31 rfl (lv_at hl 0 rfl) ?_
  refine va_get (D := (dC, dI)) (ci := 11) (v := .ref a10) (C := RX11) (T := TX11) (N := 13) hx hb hts (fun _ h9 => List.mem_cons_of_mem _ (List.mem_append_left _ (List.mem_append_right _ h9))) hown hK hP 0 rfl rfl 10 (by decide) (hts (.fieldLink RX11 84 "SeatsRound" "turnings" "LSeatsRound$Turnings;") (List.mem_of_getElem? (i := 1) rfl)) (fun _ h9 => h9) rfl dX11_turning_32 ?_
  change W _ _ _ _ _ _ _ _ _ _ _ _ _ _ _ (F0 m 35 ls [.ref a10])
  refine lv_dup hx hb dX11_turning_35 rfl ?_
  refine va_get (D := (dC, dI)) (ci := 10) (v := .int 0) (C := RX10) (T := TX10) (N := 5) hx hb hts (fun _ h9 => List.mem_cons_of_mem _ (List.mem_append_right _ h9)) hown hK hP 1 rfl rfl 1 (by decide) (hts (.fieldLink RX11 336 "SeatsRound$Turnings" "count" "I") (List.mem_of_getElem? (i := 2) rfl)) (fun _ h9 => h9) rfl dX11_turning_36 ?_
  refine lv_iconst (v := 1) hx hb dX11_turning_39 (by decide) ?_
  refine lv_iadd hx hb dX11_turning_40 ?_
  refine lv_topi (fun f_3 ef_3 => ?_)
  obtain rfl : f_3 = 1 := ef_3.trans (by decide)
  refine va_put (D := (dC, dI)) (ci := 10) (v := .int 1) (C := RX10) (T := TX10) (N := 5) hx hb hts (fun _ h9 => List.mem_cons_of_mem _ (List.mem_append_right _ h9)) tyX10 tyX10_ok nmX10 hown hK hP hD hS 1 rfl rfl 1 (by decide) (hts (.fieldLink RX11 336 "SeatsRound$Turnings" "count" "I") (List.mem_of_getElem? (i := 2) rfl)) (fun _ h9 => h9) rfl (tyX10_ok 1 (by decide)) rfl rfl (Nat.le_of_ble_eq_true rfl) dX11_turning_41 (fun H locs hP hD hS => ?_)
  have hP : va_P (dC, dI) vwCl [(h0, .inr (11, [.ref a0, .ref a1, .ref a2, .ref a3, .ref a4, .ref a5, .int 0, .ref a7, .ref a8, .ref a9, .ref a10, .ref a11, .ref a12])), (a10, .inr (10, [.ref t0, .int 1, .int (-1), .ref t1, .ref a1])), (t0, .inl (cy 0, 6, .inl g_2))] H := hP
  have hD : va_D A [(h0, .inr (11, [.ref a0, .ref a1, .ref a2, .ref a3, .ref a4, .ref a5, .int 0, .ref a7, .ref a8, .ref a9, .ref a10, .ref a11, .ref a12])), (a10, .inr (10, [.ref t0, .int 1, .int (-1), .ref t1, .ref a1])), (t0, .inl (cy 0, 6, .inl g_2))] := hD
  refine lv_aload_n hx hb dX11_turning_44 rfl (lv_at hl 0 rfl) ?_
  refine va_get (D := (dC, dI)) (ci := 11) (v := .ref a10) (C := RX11) (T := TX11) (N := 13) hx hb hts (fun _ h9 => List.mem_cons_of_mem _ (List.mem_append_left _ (List.mem_append_right _ h9))) hown hK hP 0 rfl rfl 10 (by decide) (hts (.fieldLink RX11 84 "SeatsRound" "turnings" "LSeatsRound$Turnings;") (List.mem_of_getElem? (i := 1) rfl)) (fun _ h9 => h9) rfl dX11_turning_45 ?_
  refine va_get (D := (dC, dI)) (ci := 10) (v := .int 1) (C := RX10) (T := TX10) (N := 5) hx hb hts (fun _ h9 => List.mem_cons_of_mem _ (List.mem_append_right _ h9)) hown hK hP 1 rfl rfl 1 (by decide) (hts (.fieldLink RX11 336 "SeatsRound$Turnings" "count" "I") (List.mem_of_getElem? (i := 2) rfl)) (fun _ h9 => h9) rfl dX11_turning_48 ?_
  change W _ _ _ _ _ _ _ _ _ _ _ _ _ _ _ (F0 m 51 ls [.int 1])
  exact W.iret (v := 1) hx hb hr (fun t ht hW => ⟨⟨1, (), rfl, (by first | rfl | (exfalso; omega)), trivial⟩, hS.F ht⟩) hS.2.2 dX11_turning_51
set_option maxHeartbeats 4000000 in
set_option maxRecDepth 100000 in
theorem c_harmed (l : Launch) (dC : Nat → ClassId) (dI : Nat → Nat → Nat) (cy : Nat → ClassId) (h0 : Nat) (a0 : Nat) (a1 : Nat) (a2 : Nat) (a3 : Nat) (a4 : Nat) (a5 : Nat) (a7 : Nat) (a8 : Nat) (a9 : Nat) (a10 : Nat) (a11 : Nat) (a12 : Nat) (t0 : Nat) (t1 : Nat) (sz : Nat)  : Met l yX11_harmed wsX11_harmed ({ frames := 1, cells := 0, slots := 0, locals := 23 }) (va_Pc [.ref h0] (wPre (dC, dI) cy [(h0, .inr (11, [.ref a0, .ref a1, .ref a2, .ref a3, .ref a4, .ref a5, .int 0, .ref a7, .ref a8, .ref a9, .ref a10, .ref a11, .ref a12])), (a10, .inr (10, [.ref t0, .int 0, .int (-1), .ref t1, .ref a1]))] sz)) (va_Qi (fun (r : Int32) (u : Unit) => r = -1) (fun (u : Unit) t => True) (va_A [(h0, .inr (11, [.ref a0, .ref a1, .ref a2, .ref a3, .ref a4, .ref a5, .int 0, .ref a7, .ref a8, .ref a9, .ref a10, .ref a11, .ref a12])), (a10, .inr (10, [.ref t0, .int 0, .int (-1), .ref t1, .ref a1]))] sz)) 0 0 (va_A [(h0, .inr (11, [.ref a0, .ref a1, .ref a2, .ref a3, .ref a4, .ref a5, .int 0, .ref a7, .ref a8, .ref a9, .ref a10, .ref a11, .ref a12])), (a10, .inr (10, [.ref t0, .int 0, .int (-1), .ref t1, .ref a1]))] sz) := by
  refine Met.ofW (cc := cX11_harmed) (maxL := 1) (ret := (some .int)) (by decide) rfl ?_
  intro p e s m args below meth c s₁ B hml hv
  obtain ⟨rfl, hsz, hP, hK, hD0, hN⟩ := hv
  have hx := B.exec
  have hb := B.bytes
  have hr := B.returns
  have hts := atoms_spec (ws := wsX11_harmed) B.pre
  have hown : s.vm.findClass RX11 = some m.cls := findClass_of_methodNamed B.named
  have hlocks := B.notSynchronized
  subst hsz
  have hD := hD0.self (sz := s.heap.size)
  generalize hAe : va_A [(h0, .inr (11, [.ref a0, .ref a1, .ref a2, .ref a3, .ref a4, .ref a5, .int 0, .ref a7, .ref a8, .ref a9, .ref a10, .ref a11, .ref a12])), (a10, .inr (10, [.ref t0, .int 0, .int (-1), .ref t1, .ref a1]))] s.heap.size = A at hD ⊢
  have hA : ∀ q : Nat, s.heap.size ≤ q → A q := fun q h => by rw [← hAe]; exact Or.inr h
  have hS : va_S A s.heap s.heap [] := va_S.rf
  have hl := lv_entry ([.ref h0]) (n := 1) (Nat.le_of_ble_eq_true rfl)
  rw [lg_entry_eq]
  generalize (lg_sl ([.ref h0]) ++ List.replicate (1 - (lg_sl ([.ref h0])).length) Slot.unset).toArray = ls at hl ⊢
  have hl : lv_has ls 1 [(0, .ref h0)] := hl
  refine lv_aload_n hx hb dX11_harmed_0 rfl (lv_at hl 0 rfl) ?_
  change W _ _ _ _ _ _ _ _ _ _ _ _ _ _ _ (F0 m 1 ls [.ref h0])
  refine va_get (D := (dC, dI)) (ci := 11) (v := .ref a10) (C := RX11) (T := TX11) (N := 13) hx hb hts (fun _ h9 => List.mem_cons_of_mem _ (List.mem_append_left _ (List.mem_append_right _ h9))) hown hK hP 0 rfl rfl 10 (by decide) (hts (.fieldLink RX11 84 "SeatsRound" "turnings" "LSeatsRound$Turnings;") (List.mem_of_getElem? (i := 1) rfl)) (fun _ h9 => h9) rfl dX11_harmed_1 ?_
  refine va_get (D := (dC, dI)) (ci := 10) (v := .int (-1)) (C := RX10) (T := TX10) (N := 5) hx hb hts (fun _ h9 => List.mem_cons_of_mem _ (List.mem_append_right _ h9)) hown hK hP 1 rfl rfl 2 (by decide) (hts (.fieldLink RX11 341 "SeatsRound$Turnings" "greatest" "I") (List.mem_of_getElem? (i := 2) rfl)) (fun _ h9 => h9) rfl dX11_harmed_4 ?_
  refine lv_iconst (v := (-1)) hx hb dX11_harmed_7 (by decide) ?_
  refine lv_icmp_ne (tgt := 15) hx hb dX11_harmed_8 (by decide) (fun c_1 => absurd c_1 (by decide)) (fun _ => ?_)
  refine lv_iconst (v := (-1)) hx hb dX11_harmed_11 (by decide) ?_
  refine lv_goto (tgt := 22) hx hb dX11_harmed_12 (by decide) ?_
  exact W.iret (v := (-1)) hx hb hr (fun t ht hW => ⟨⟨(-1), (), rfl, (by first | rfl | (exfalso; omega)), trivial⟩, hS.F ht⟩) hS.2.2 dX11_harmed_22
set_option maxHeartbeats 4000000 in
set_option maxRecDepth 100000 in
theorem c_act (l : Launch) (dC : Nat → ClassId) (dI : Nat → Nat → Nat) (cy : Nat → ClassId) (h0 : Nat) (a0 : Nat) (a1 : Nat) (a2 : Nat) (a3 : Nat) (a4 : Nat) (a5 : Nat) (a7 : Nat) (a8 : Nat) (a9 : Nat) (a10 : Nat) (a11 : Nat) (a12 : Nat) (x0 : Nat) (k0 : Nat) (k1 : Nat) (k2 : Nat) (k3 : Nat) (k4 : Nat) (p0 : Int32) (p1 : Int32) (p2 : Int32) (sz : Nat)  : Met l yX11_act wsX11_act ({ frames := 2, cells := 0, slots := 0, locals := 44 }) (va_Pc [.ref h0, .int p0, .int p1, .int p2] (wPre (dC, dI) cy [(h0, .inr (11, [.ref a0, .ref a1, .ref a2, .ref a3, .ref a4, .ref a5, .int 0, .ref a7, .ref a8, .ref a9, .ref a10, .ref a11, .ref a12])), (a11, .inr (0, [.ref x0, .int 0, .int 0, .int 0, .int 0])), (a2, .inr (2, [.ref k0, .ref k1, .ref k2, .ref k3, .ref k4, .int 0]))] sz)) (va_Qi (fun (r : Int32) (u : Unit) => r = 0) (fun (u : Unit) t => True) (va_A [(h0, .inr (11, [.ref a0, .ref a1, .ref a2, .ref a3, .ref a4, .ref a5, .int 0, .ref a7, .ref a8, .ref a9, .ref a10, .ref a11, .ref a12])), (a11, .inr (0, [.ref x0, .int 0, .int 0, .int 0, .int 0])), (a2, .inr (2, [.ref k0, .ref k1, .ref k2, .ref k3, .ref k4, .int 0]))] sz)) 0 0 (va_A [(h0, .inr (11, [.ref a0, .ref a1, .ref a2, .ref a3, .ref a4, .ref a5, .int 0, .ref a7, .ref a8, .ref a9, .ref a10, .ref a11, .ref a12])), (a11, .inr (0, [.ref x0, .int 0, .int 0, .int 0, .int 0])), (a2, .inr (2, [.ref k0, .ref k1, .ref k2, .ref k3, .ref k4, .int 0]))] sz) := by
  refine Met.ofW (cc := cX11_act) (maxL := 4) (ret := (some .int)) (by decide) rfl ?_
  intro p e s m args below meth c s₁ B hml hv
  obtain ⟨rfl, hsz, hP, hK, hD0, hN⟩ := hv
  have hx := B.exec
  have hb := B.bytes
  have hr := B.returns
  have hts := atoms_spec (ws := wsX11_act) B.pre
  have hown : s.vm.findClass RX11 = some m.cls := findClass_of_methodNamed B.named
  have hlocks := B.notSynchronized
  subst hsz
  have hD := hD0.self (sz := s.heap.size)
  generalize hAe : va_A [(h0, .inr (11, [.ref a0, .ref a1, .ref a2, .ref a3, .ref a4, .ref a5, .int 0, .ref a7, .ref a8, .ref a9, .ref a10, .ref a11, .ref a12])), (a11, .inr (0, [.ref x0, .int 0, .int 0, .int 0, .int 0])), (a2, .inr (2, [.ref k0, .ref k1, .ref k2, .ref k3, .ref k4, .int 0]))] s.heap.size = A at hD ⊢
  have hA : ∀ q : Nat, s.heap.size ≤ q → A q := fun q h => by rw [← hAe]; exact Or.inr h
  have hS : va_S A s.heap s.heap [] := va_S.rf
  have hl := lv_entry ([.ref h0, .int p0, .int p1, .int p2]) (n := 4) (Nat.le_of_ble_eq_true rfl)
  rw [lg_entry_eq]
  generalize (lg_sl ([.ref h0, .int p0, .int p1, .int p2]) ++ List.replicate (4 - (lg_sl ([.ref h0, .int p0, .int p1, .int p2])).length) Slot.unset).toArray = ls at hl ⊢
  have hl : lv_has ls 4 [(0, .ref h0), (1, .int p0), (2, .int p1), (3, .int p2)] := hl
  refine lv_aload_n hx hb dX11_act_0 rfl (lv_at hl 0 rfl) ?_
  refine va_get (D := (dC, dI)) (ci := 11) (v := .ref a11) (C := RX11) (T := TX11) (N := 13) hx hb hts (fun _ h9 => List.mem_cons_of_mem _ (List.mem_append_left _ (List.mem_append_left _ (List.mem_append_right _ h9)))) hown hK hP 0 rfl rfl 11 (by decide) (hts (.fieldLink RX11 91 "SeatsRound" "acts" "LSeatsRound$Acts;") (List.mem_of_getElem? (i := 1) rfl)) (fun _ h9 => h9) rfl dX11_act_1 ?_
  refine lv_iconst (v := 0) hx hb dX11_act_4 (by decide) ?_
  refine va_put (D := (dC, dI)) (ci := 0) (v := .int 0) (C := RX0) (T := TX0) (N := 5) hx hb hts (fun _ h9 => List.mem_cons_of_mem _ (List.mem_append_left _ (List.mem_append_right _ h9))) tyX0 tyX0_ok nmX0 hown hK hP hD hS 1 rfl rfl 1 (by decide) (hts (.fieldLink RX11 344 "SeatsRound$Acts" "ran" "I") (List.mem_of_getElem? (i := 2) rfl)) (fun _ h9 => h9) rfl (tyX0_ok 1 (by decide)) rfl rfl (Nat.le_of_ble_eq_true rfl) dX11_act_5 (fun H locs hP hD hS => ?_)
  have hP : va_P (dC, dI) vwCl [(h0, .inr (11, [.ref a0, .ref a1, .ref a2, .ref a3, .ref a4, .ref a5, .int 0, .ref a7, .ref a8, .ref a9, .ref a10, .ref a11, .ref a12])), (a11, .inr (0, [.ref x0, .int 0, .int 0, .int 0, .int 0])), (a2, .inr (2, [.ref k0, .ref k1, .ref k2, .ref k3, .ref k4, .int 0]))] H := hP
  have hD : va_D A [(h0, .inr (11, [.ref a0, .ref a1, .ref a2, .ref a3, .ref a4, .ref a5, .int 0, .ref a7, .ref a8, .ref a9, .ref a10, .ref a11, .ref a12])), (a11, .inr (0, [.ref x0, .int 0, .int 0, .int 0, .int 0])), (a2, .inr (2, [.ref k0, .ref k1, .ref k2, .ref k3, .ref k4, .int 0]))] := hD
  refine lv_aload_n hx hb dX11_act_8 rfl (lv_at hl 0 rfl) ?_
  refine va_get (D := (dC, dI)) (ci := 11) (v := .ref a2) (C := RX11) (T := TX11) (N := 13) hx hb hts (fun _ h9 => List.mem_cons_of_mem _ (List.mem_append_left _ (List.mem_append_left _ (List.mem_append_right _ h9)))) hown hK hP 0 rfl rfl 2 (by decide) (hts (.fieldLink RX11 26 "SeatsRound" "keepers" "LSeatsRound$Keepers;") (List.mem_of_getElem? (i := 3) rfl)) (fun _ h9 => h9) rfl dX11_act_9 ?_
  refine lv_iload_n hx hb dX11_act_12 rfl (lv_at hl 1 rfl) ?_
  have hPc := hP.sub (ws' := [(a2, .inr (2, [.ref k0, .ref k1, .ref k2, .ref k3, .ref k4, .int 0]))]) [2] rfl
  have hDc := hD.sub (ws' := [(a2, .inr (2, [.ref k0, .ref k1, .ref k2, .ref k3, .ref k4, .int 0]))]) [2] (by decide) rfl
  refine vz_callSi (va_runV (As := [.int p0]) (rest := []) ⟨hx, hb, hml, hown, hts⟩ (c_KP_has l dC dI cy a2 k0 k1 k2 k3 k4 p0 H.size) (cwV 1 hts gX11_act_X2_has rfl rfl rfl (by decide +kernel) ⟨Nat.le_of_ble_eq_true rfl, Nat.le_of_ble_eq_true rfl⟩) (wp_V hK hN hPc hDc (va_recv hK hPc (ci := 2) (q0 := 0) rfl rfl)) rfl rfl hl.1 rfl (lv_room (Nat.le_of_ble_eq_true rfl)) dX11_act_13 ⟨Nat.le_of_ble_eq_true rfl, Nat.le_of_ble_eq_true rfl⟩) (fun r_1 hw_1 => ?_)
  obtain rfl : r_1 = 0 := hw_1
  change W _ _ _ _ _ _ _ _ _ _ _ _ _ _ _ (F0 m 16 ls [.int 0])
  refine lv_if_ne (tgt := 21) hx hb dX11_act_16 (by decide) (fun c_2 => absurd c_2 (by decide)) (fun _ => ?_)
  refine lv_iconst (v := 0) hx hb dX11_act_19 (by decide) ?_
  exact W.iret (v := 0) hx hb hr (fun t ht hW => ⟨⟨0, (), rfl, (by first | rfl | (exfalso; omega)), trivial⟩, hS.F ht⟩) hS.2.2 dX11_act_20
set_option maxHeartbeats 4000000 in
set_option maxRecDepth 100000 in
theorem c_trace (l : Launch) (dC : Nat → ClassId) (dI : Nat → Nat → Nat) (cy : Nat → ClassId) (h0 : Nat) (a0 : Nat) (a1 : Nat) (a2 : Nat) (a3 : Nat) (a4 : Nat) (a5 : Nat) (a7 : Nat) (a8 : Nat) (a9 : Nat) (a10 : Nat) (a11 : Nat) (a12 : Nat) (x0 : Nat) (p0 : Int32) (sz : Nat)  : Met l yX11_trace wsX11_trace ({ frames := 1, cells := 0, slots := 0, locals := 23 }) (va_Pc [.ref h0, .int p0] (wPre (dC, dI) cy [(h0, .inr (11, [.ref a0, .ref a1, .ref a2, .ref a3, .ref a4, .ref a5, .int 0, .ref a7, .ref a8, .ref a9, .ref a10, .ref a11, .ref a12])), (a11, .inr (0, [.ref x0, .int 0, .int 0, .int 0, .int 0]))] sz)) (va_Qi (fun (r : Int32) (u : Unit) => r = -1) (fun (u : Unit) t => True) (va_A [(h0, .inr (11, [.ref a0, .ref a1, .ref a2, .ref a3, .ref a4, .ref a5, .int 0, .ref a7, .ref a8, .ref a9, .ref a10, .ref a11, .ref a12])), (a11, .inr (0, [.ref x0, .int 0, .int 0, .int 0, .int 0]))] sz)) 0 0 (va_A [(h0, .inr (11, [.ref a0, .ref a1, .ref a2, .ref a3, .ref a4, .ref a5, .int 0, .ref a7, .ref a8, .ref a9, .ref a10, .ref a11, .ref a12])), (a11, .inr (0, [.ref x0, .int 0, .int 0, .int 0, .int 0]))] sz) := by
  refine Met.ofW (cc := cX11_trace) (maxL := 2) (ret := (some .int)) (by decide) rfl ?_
  intro p e s m args below meth c s₁ B hml hv
  obtain ⟨rfl, hsz, hP, hK, hD0, hN⟩ := hv
  have hx := B.exec
  have hb := B.bytes
  have hr := B.returns
  have hts := atoms_spec (ws := wsX11_trace) B.pre
  have hown : s.vm.findClass RX11 = some m.cls := findClass_of_methodNamed B.named
  have hlocks := B.notSynchronized
  subst hsz
  have hD := hD0.self (sz := s.heap.size)
  generalize hAe : va_A [(h0, .inr (11, [.ref a0, .ref a1, .ref a2, .ref a3, .ref a4, .ref a5, .int 0, .ref a7, .ref a8, .ref a9, .ref a10, .ref a11, .ref a12])), (a11, .inr (0, [.ref x0, .int 0, .int 0, .int 0, .int 0]))] s.heap.size = A at hD ⊢
  have hA : ∀ q : Nat, s.heap.size ≤ q → A q := fun q h => by rw [← hAe]; exact Or.inr h
  have hS : va_S A s.heap s.heap [] := va_S.rf
  have hl := lv_entry ([.ref h0, .int p0]) (n := 2) (Nat.le_of_ble_eq_true rfl)
  rw [lg_entry_eq]
  generalize (lg_sl ([.ref h0, .int p0]) ++ List.replicate (2 - (lg_sl ([.ref h0, .int p0])).length) Slot.unset).toArray = ls at hl ⊢
  have hl : lv_has ls 2 [(0, .ref h0), (1, .int p0)] := hl
  refine lv_iload_n hx hb dX11_trace_0 rfl (lv_at hl 1 rfl) ?_
  refine lv_if_lt (tgt := 33) hx hb dX11_trace_1 (by decide) (fun c_1 => ?_) (fun c_1 => ?_)
  · have ic_1 : p0.toInt < (0 : Int) := Int32.lt_iff_toInt_lt.mp c_1
    refine lv_iconst (v := (-1)) hx hb dX11_trace_33 (by decide) ?_
    exact W.iret (v := (-1)) hx hb hr (fun t ht hW => ⟨⟨(-1), (), rfl, (by first | rfl | (exfalso; omega)), trivial⟩, hS.F ht⟩) hS.2.2 dX11_trace_34
  · have ic_1 : ¬ p0.toInt < (0 : Int) := fun h9 => c_1 (Int32.lt_iff_toInt_lt.mpr h9)
    refine lv_iload_n hx hb dX11_trace_4 rfl (lv_at hl 1 rfl) ?_
    refine lv_aload_n hx hb dX11_trace_5 rfl (lv_at hl 0 rfl) ?_
    refine va_get (D := (dC, dI)) (ci := 11) (v := .ref a11) (C := RX11) (T := TX11) (N := 13) hx hb hts (fun _ h9 => List.mem_cons_of_mem _ (List.mem_append_left _ (List.mem_append_right _ h9))) hown hK hP 0 rfl rfl 11 (by decide) (hts (.fieldLink RX11 91 "SeatsRound" "acts" "LSeatsRound$Acts;") (List.mem_of_getElem? (i := 1) rfl)) (fun _ h9 => h9) rfl dX11_trace_6 ?_
    refine va_get (D := (dC, dI)) (ci := 0) (v := .int 0) (C := RX0) (T := TX0) (N := 5) hx hb hts (fun _ h9 => List.mem_cons_of_mem _ (List.mem_append_right _ h9)) hown hK hP 1 rfl rfl 1 (by decide) (hts (.fieldLink RX11 344 "SeatsRound$Acts" "ran" "I") (List.mem_of_getElem? (i := 2) rfl)) (fun _ h9 => h9) rfl dX11_trace_9 ?_
    refine lv_icmp_ge (tgt := 33) hx hb dX11_trace_12 (by decide) (fun c_2 => ?_) (fun c_2 => ?_)
    · have ic_2 : (0 : Int) ≤ p0.toInt := Int32.le_iff_toInt_le.mp c_2
      refine lv_iconst (v := (-1)) hx hb dX11_trace_33 (by decide) ?_
      change W _ _ _ _ _ _ _ _ _ _ _ _ _ _ _ (F0 m 34 ls [.int (-1)])
      exact W.iret (v := (-1)) hx hb hr (fun t ht hW => ⟨⟨(-1), (), rfl, (by first | rfl | (exfalso; omega)), trivial⟩, hS.F ht⟩) hS.2.2 dX11_trace_34
    · have ic_2 : ¬ (0 : Int) ≤ p0.toInt := fun h9 => c_2 (Int32.le_iff_toInt_le.mpr h9)
      exact absurd True.intro (by omega)
set_option maxHeartbeats 4000000 in
set_option maxRecDepth 100000 in
theorem c_keep (l : Launch) (dC : Nat → ClassId) (dI : Nat → Nat → Nat) (cy : Nat → ClassId) (h0 : Nat) (a0 : Nat) (a1 : Nat) (a2 : Nat) (a3 : Nat) (a4 : Nat) (a5 : Nat) (a7 : Nat) (a8 : Nat) (a9 : Nat) (a10 : Nat) (a11 : Nat) (a12 : Nat) (k0 : Nat) (k1 : Nat) (k2 : Nat) (k3 : Nat) (k4 : Nat) (r0 : Nat) (r1 : Nat) (r2 : Nat) (r3 : Nat) (p0 : Int32) (p1 : Int32) (sz : Nat)  : Met l yX11_keep wsX11_keep ({ frames := 2, cells := 0, slots := 0, locals := 45 }) (va_Pc [.ref h0, .int p0, .int p1] (wPre (dC, dI) cy [(h0, .inr (11, [.ref a0, .ref a1, .ref a2, .ref a3, .ref a4, .ref a5, .int 0, .ref a7, .ref a8, .ref a9, .ref a10, .ref a11, .ref a12])), (a2, .inr (2, [.ref k0, .ref k1, .ref k2, .ref k3, .ref k4, .int 0])), (a12, .inr (7, [.ref r0, .ref r1, .ref r2, .ref r3])), (r0, .inl (cy 0, 6, .inl (fun _ => (-1)))), (r1, .inl (cy 0, 6, .inl (fun _ => (-1)))), (r2, .inl (cy 0, 6, .inl (fun _ => 0)))] sz)) (va_Qi (fun (r : Int32) (u : Unit) => r = sp_keep p0 p1) (fun (u : Unit) t => True) (va_A [(h0, .inr (11, [.ref a0, .ref a1, .ref a2, .ref a3, .ref a4, .ref a5, .int 0, .ref a7, .ref a8, .ref a9, .ref a10, .ref a11, .ref a12])), (a2, .inr (2, [.ref k0, .ref k1, .ref k2, .ref k3, .ref k4, .int 0])), (a12, .inr (7, [.ref r0, .ref r1, .ref r2, .ref r3])), (r0, .inl (cy 0, 6, .inl (fun _ => (-1)))), (r1, .inl (cy 0, 6, .inl (fun _ => (-1)))), (r2, .inl (cy 0, 6, .inl (fun _ => 0)))] sz)) 0 0 (va_A [(h0, .inr (11, [.ref a0, .ref a1, .ref a2, .ref a3, .ref a4, .ref a5, .int 0, .ref a7, .ref a8, .ref a9, .ref a10, .ref a11, .ref a12])), (a2, .inr (2, [.ref k0, .ref k1, .ref k2, .ref k3, .ref k4, .int 0])), (a12, .inr (7, [.ref r0, .ref r1, .ref r2, .ref r3])), (r0, .inl (cy 0, 6, .inl (fun _ => (-1)))), (r1, .inl (cy 0, 6, .inl (fun _ => (-1)))), (r2, .inl (cy 0, 6, .inl (fun _ => 0)))] sz) := by
  refine Met.ofW (cc := cX11_keep) (maxL := 3) (ret := (some .int)) (by decide) rfl ?_
  intro p e s m args below meth c s₁ B hml hv
  obtain ⟨rfl, hsz, hP, hK, hD0, hN⟩ := hv
  have hx := B.exec
  have hb := B.bytes
  have hr := B.returns
  have hts := atoms_spec (ws := wsX11_keep) B.pre
  have hown : s.vm.findClass RX11 = some m.cls := findClass_of_methodNamed B.named
  have hlocks := B.notSynchronized
  subst hsz
  have hD := hD0.self (sz := s.heap.size)
  generalize hAe : va_A [(h0, .inr (11, [.ref a0, .ref a1, .ref a2, .ref a3, .ref a4, .ref a5, .int 0, .ref a7, .ref a8, .ref a9, .ref a10, .ref a11, .ref a12])), (a2, .inr (2, [.ref k0, .ref k1, .ref k2, .ref k3, .ref k4, .int 0])), (a12, .inr (7, [.ref r0, .ref r1, .ref r2, .ref r3])), (r0, .inl (cy 0, 6, .inl (fun _ => (-1)))), (r1, .inl (cy 0, 6, .inl (fun _ => (-1)))), (r2, .inl (cy 0, 6, .inl (fun _ => 0)))] s.heap.size = A at hD ⊢
  have hA : ∀ q : Nat, s.heap.size ≤ q → A q := fun q h => by rw [← hAe]; exact Or.inr h
  have hS : va_S A s.heap s.heap [] := va_S.rf
  have hl := lv_entry ([.ref h0, .int p0, .int p1]) (n := 3) (Nat.le_of_ble_eq_true rfl)
  rw [lg_entry_eq]
  generalize (lg_sl ([.ref h0, .int p0, .int p1]) ++ List.replicate (3 - (lg_sl ([.ref h0, .int p0, .int p1])).length) Slot.unset).toArray = ls at hl ⊢
  have hl : lv_has ls 3 [(0, .ref h0), (1, .int p0), (2, .int p1)] := hl
  refine lv_iload_n hx hb dX11_keep_0 rfl (lv_at hl 1 rfl) ?_
  have hPc := hP.sub (ws' := []) [] rfl
  have hDc := hD.sub (ws' := []) [] (by decide) rfl
  refine vz_callSi (va_runS (As := [.int p0]) (rest := []) ⟨hx, hb, hml, hown, hts⟩ (c_isShelf l dC dI cy p0 s.heap.size) (va_cwS 1 hts gX11_keep_X11_isShelf rfl rfl rfl (by decide +kernel) ⟨Nat.le_of_ble_eq_true rfl, Nat.le_of_ble_eq_true rfl⟩) (wp_S hK hN hPc hDc) rfl rfl hl.1 rfl (lv_room (Nat.le_of_ble_eq_true rfl)) dX11_keep_1 ⟨Nat.le_of_ble_eq_true rfl, Nat.le_of_ble_eq_true rfl⟩) (fun r_1 hw_1 => ?_)
  rcases hw_1 with ⟨c_1, hw_1⟩ | ⟨c_1, hw_1⟩ <;> subst hw_1
  · have ic_1 : 0 ≤ p0.toInt ∧ p0.toInt ≤ 5 := c_1
    refine lv_if_eq (tgt := 23) hx hb dX11_keep_4 (by decide) (fun c_2 => absurd c_2 (by decide)) (fun _ => ?_)
    refine lv_iload_n hx hb dX11_keep_7 rfl (lv_at hl 2 rfl) ?_
    refine lv_iconst (v := (-1)) hx hb dX11_keep_8 (by decide) ?_
    refine lv_icmp_eq (tgt := 25) hx hb dX11_keep_9 (by decide) (fun c_3 => ?_) (fun c_3 => ?_)
    · have ic_3 : p1.toInt = (-1 : Int) := congrArg Int32.toInt c_3
      refine lv_aload_n hx hb dX11_keep_25 rfl (lv_at hl 0 rfl) ?_
      refine va_get (D := (dC, dI)) (ci := 11) (v := .ref a12) (C := RX11) (T := TX11) (N := 13) hx hb hts (fun _ h9 => List.mem_cons_of_mem _ (List.mem_append_left _ (List.mem_append_left _ (List.mem_append_right _ h9)))) hown hK hP 0 rfl rfl 12 (by decide) (hts (.fieldLink RX11 98 "SeatsRound" "rows" "LSeatsRound$Rows;") (List.mem_of_getElem? (i := 2) rfl)) (fun _ h9 => h9) rfl dX11_keep_26 ?_
      change W _ _ _ _ _ _ _ _ _ _ _ _ _ _ _ (F0 m 29 ls [.ref a12])
      refine lv_iload_n hx hb dX11_keep_29 rfl (lv_at hl 1 rfl) ?_
      refine lv_iload_n hx hb dX11_keep_30 rfl (lv_at hl 2 rfl) ?_
      have hPc := hP.sub (ws' := [(a12, .inr (7, [.ref r0, .ref r1, .ref r2, .ref r3])), (r0, .inl (cy 0, 6, .inl (fun _ => (-1)))), (r1, .inl (cy 0, 6, .inl (fun _ => (-1)))), (r2, .inl (cy 0, 6, .inl (fun _ => 0)))]) [2, 3, 4, 5] rfl
      have hDc := hD.sub (ws' := [(a12, .inr (7, [.ref r0, .ref r1, .ref r2, .ref r3])), (r0, .inl (cy 0, 6, .inl (fun _ => (-1)))), (r1, .inl (cy 0, 6, .inl (fun _ => (-1)))), (r2, .inl (cy 0, 6, .inl (fun _ => 0)))]) [2, 3, 4, 5] (by decide) rfl
      have hFc := va_free (wc := [(a12, .inr (7, [.ref r0, .ref r1, .ref r2, .ref r3])), (r0, .inl (cy 0, 6, .inl (fun _ => (-1)))), (r1, .inl (cy 0, 6, .inl (fun _ => (-1)))), (r2, .inl (cy 0, 6, .inl (fun _ => 0)))]) hD hS hA [2, 3, 4, 5] rfl
      refine va_callv (va_runV (As := [.int p0, .int p1]) (rest := []) ⟨hx, hb, hml, hown, hts⟩ (c_RW_holdKeeper l dC dI cy a12 r0 r1 r2 r3 p0 p1 s.heap.size (by omega)) (cwV 2 hts gX11_keep_X7_holdKeeper rfl rfl rfl (by decide +kernel) ⟨Nat.le_of_ble_eq_true rfl, Nat.le_of_ble_eq_true rfl⟩) (wp_V hK hN hPc hDc (va_recv hK hPc (ci := 7) (q0 := 0) rfl rfl)) rfl rfl hl.1 rfl (lv_room (Nat.le_of_ble_eq_true rfl)) dX11_keep_31 ⟨Nat.le_of_ble_eq_true rfl, Nat.le_of_ble_eq_true rfl⟩) hS (fun q _ h => hFc q h) hFc (fun u_4 t H1 locs ht hvm hw_4 hB hz1 hk1 hS => ?_)
      have hP1 : va_P (dC, dI) vwCl [] H1 := fun k q h => by simp at h
      have hD1 : va_D (va_A [(a12, .inr (7, [.ref r0, .ref r1, .ref r2, .ref r3])), (r0, .inl (cy 0, 6, .inl (fun _ => (-1)))), (r1, .inl (cy 0, 6, .inl (fun _ => (-1)))), (r2, .inl (cy 0, 6, .inl (fun _ => 0)))] s.heap.size) [] := ⟨fun i j p q h => by simp at h, fun k q h => by simp at h⟩
      obtain ⟨hP, hD⟩ := va_join (wr := [(h0, .inr (11, [.ref a0, .ref a1, .ref a2, .ref a3, .ref a4, .ref a5, .int 0, .ref a7, .ref a8, .ref a9, .ref a10, .ref a11, .ref a12])), (a2, .inr (2, [.ref k0, .ref k1, .ref k2, .ref k3, .ref k4, .int 0]))]) (w1 := []) hP hD [2, 3, 4, 5] [0, 1] rfl rfl (by decide) (by decide) hk1 hFc hP1 hD1
      generalize H1 = H at hP hS ⊢
      have hP : va_P (dC, dI) vwCl [(h0, .inr (11, [.ref a0, .ref a1, .ref a2, .ref a3, .ref a4, .ref a5, .int 0, .ref a7, .ref a8, .ref a9, .ref a10, .ref a11, .ref a12])), (a2, .inr (2, [.ref k0, .ref k1, .ref k2, .ref k3, .ref k4, .int 0]))] H := hP
      have hD : va_D A [(h0, .inr (11, [.ref a0, .ref a1, .ref a2, .ref a3, .ref a4, .ref a5, .int 0, .ref a7, .ref a8, .ref a9, .ref a10, .ref a11, .ref a12])), (a2, .inr (2, [.ref k0, .ref k1, .ref k2, .ref k3, .ref k4, .int 0]))] := hD
      refine lv_iconst (v := 1) hx hb dX11_keep_34 (by decide) ?_
      exact W.iret (v := 1) hx hb hr (fun t ht hW => ⟨⟨1, (), rfl, (by unfold sp_keep; split <;> (try split) <;> first | rfl | (exfalso; omega)), trivial⟩, hS.F ht⟩) hS.2.2 dX11_keep_35
    · have ic_3 : ¬ p1.toInt = (-1 : Int) := fun h9 => c_3 (Int32.toInt_inj.mp h9)
      refine lv_aload_n hx hb dX11_keep_12 rfl (lv_at hl 0 rfl) ?_
      refine va_get (D := (dC, dI)) (ci := 11) (v := .ref a2) (C := RX11) (T := TX11) (N := 13) hx hb hts (fun _ h9 => List.mem_cons_of_mem _ (List.mem_append_left _ (List.mem_append_left _ (List.mem_append_right _ h9)))) hown hK hP 0 rfl rfl 2 (by decide) (hts (.fieldLink RX11 26 "SeatsRound" "keepers" "LSeatsRound$Keepers;") (List.mem_of_getElem? (i := 1) rfl)) (fun _ h9 => h9) rfl dX11_keep_13 ?_
      refine lv_iload_n hx hb dX11_keep_16 rfl (lv_at hl 2 rfl) ?_
      have hPc := hP.sub (ws' := [(a2, .inr (2, [.ref k0, .ref k1, .ref k2, .ref k3, .ref k4, .int 0]))]) [1] rfl
      have hDc := hD.sub (ws' := [(a2, .inr (2, [.ref k0, .ref k1, .ref k2, .ref k3, .ref k4, .int 0]))]) [1] (by decide) rfl
      refine vz_callSi (va_runV (As := [.int p1]) (rest := []) ⟨hx, hb, hml, hown, hts⟩ (c_KP_has l dC dI cy a2 k0 k1 k2 k3 k4 p1 s.heap.size) (cwV 1 hts gX11_keep_X2_has rfl rfl rfl (by decide +kernel) ⟨Nat.le_of_ble_eq_true rfl, Nat.le_of_ble_eq_true rfl⟩) (wp_V hK hN hPc hDc (va_recv hK hPc (ci := 2) (q0 := 0) rfl rfl)) rfl rfl hl.1 rfl (lv_room (Nat.le_of_ble_eq_true rfl)) dX11_keep_17 ⟨Nat.le_of_ble_eq_true rfl, Nat.le_of_ble_eq_true rfl⟩) (fun r_5 hw_5 => ?_)
      obtain rfl : r_5 = 0 := hw_5
      change W _ _ _ _ _ _ _ _ _ _ _ _ _ _ _ (F0 m 20 ls [.int 0])
      refine lv_if_ne (tgt := 25) hx hb dX11_keep_20 (by decide) (fun c_6 => absurd c_6 (by decide)) (fun _ => ?_)
      refine lv_iconst (v := (-1)) hx hb dX11_keep_23 (by decide) ?_
      exact W.iret (v := (-1)) hx hb hr (fun t ht hW => ⟨⟨(-1), (), rfl, (by unfold sp_keep; split <;> (try split) <;> first | rfl | (exfalso; omega)), trivial⟩, hS.F ht⟩) hS.2.2 dX11_keep_24
  · have ic_1 : ¬ (0 ≤ p0.toInt ∧ p0.toInt ≤ 5) := c_1
    refine lv_if_eq (tgt := 23) hx hb dX11_keep_4 (by decide) (fun _ => ?_) (fun c_7 => absurd c_7 (by decide))
    refine lv_iconst (v := (-1)) hx hb dX11_keep_23 (by decide) ?_
    exact W.iret (v := (-1)) hx hb hr (fun t ht hW => ⟨⟨(-1), (), rfl, (by unfold sp_keep; split <;> (try split) <;> first | rfl | (exfalso; omega)), trivial⟩, hS.F ht⟩) hS.2.2 dX11_keep_24
set_option maxHeartbeats 4000000 in
set_option maxRecDepth 100000 in
theorem c_put (l : Launch) (dC : Nat → ClassId) (dI : Nat → Nat → Nat) (cy : Nat → ClassId) (h0 : Nat) (a0 : Nat) (a1 : Nat) (a2 : Nat) (a3 : Nat) (a4 : Nat) (a5 : Nat) (a7 : Nat) (a8 : Nat) (a9 : Nat) (a10 : Nat) (a11 : Nat) (a12 : Nat) (r0 : Nat) (r1 : Nat) (r2 : Nat) (r3 : Nat) (p0 : Int32) (p1 : Int32) (p2 : Int64) (sz : Nat)  : Met l yX11_put wsX11_put ({ frames := 3, cells := 0, slots := 0, locals := 66 }) (va_Pc [.ref h0, .int p0, .int p1, .long p2] (wPre (dC, dI) cy [(h0, .inr (11, [.ref a0, .ref a1, .ref a2, .ref a3, .ref a4, .ref a5, .int 0, .ref a7, .ref a8, .ref a9, .ref a10, .ref a11, .ref a12])), (a12, .inr (7, [.ref r0, .ref r1, .ref r2, .ref r3])), (r0, .inl (cy 0, 6, .inl (fun _ => (-1)))), (r1, .inl (cy 0, 6, .inl (fun _ => (-1))))] sz)) (va_Qi (fun (r : Int32) (u : Unit) => r = sp_put p0) (fun (u : Unit) t => True) (va_A [(h0, .inr (11, [.ref a0, .ref a1, .ref a2, .ref a3, .ref a4, .ref a5, .int 0, .ref a7, .ref a8, .ref a9, .ref a10, .ref a11, .ref a12])), (a12, .inr (7, [.ref r0, .ref r1, .ref r2, .ref r3])), (r0, .inl (cy 0, 6, .inl (fun _ => (-1)))), (r1, .inl (cy 0, 6, .inl (fun _ => (-1))))] sz)) 0 0 (va_A [(h0, .inr (11, [.ref a0, .ref a1, .ref a2, .ref a3, .ref a4, .ref a5, .int 0, .ref a7, .ref a8, .ref a9, .ref a10, .ref a11, .ref a12])), (a12, .inr (7, [.ref r0, .ref r1, .ref r2, .ref r3])), (r0, .inl (cy 0, 6, .inl (fun _ => (-1)))), (r1, .inl (cy 0, 6, .inl (fun _ => (-1))))] sz) := by
  refine Met.ofW (cc := cX11_put) (maxL := 6) (ret := (some .int)) (by decide) rfl ?_
  intro p e s m args below meth c s₁ B hml hv
  obtain ⟨rfl, hsz, hP, hK, hD0, hN⟩ := hv
  have hx := B.exec
  have hb := B.bytes
  have hr := B.returns
  have hts := atoms_spec (ws := wsX11_put) B.pre
  have hown : s.vm.findClass RX11 = some m.cls := findClass_of_methodNamed B.named
  have hlocks := B.notSynchronized
  subst hsz
  have hD := hD0.self (sz := s.heap.size)
  generalize hAe : va_A [(h0, .inr (11, [.ref a0, .ref a1, .ref a2, .ref a3, .ref a4, .ref a5, .int 0, .ref a7, .ref a8, .ref a9, .ref a10, .ref a11, .ref a12])), (a12, .inr (7, [.ref r0, .ref r1, .ref r2, .ref r3])), (r0, .inl (cy 0, 6, .inl (fun _ => (-1)))), (r1, .inl (cy 0, 6, .inl (fun _ => (-1))))] s.heap.size = A at hD ⊢
  have hA : ∀ q : Nat, s.heap.size ≤ q → A q := fun q h => by rw [← hAe]; exact Or.inr h
  have hS : va_S A s.heap s.heap [] := va_S.rf
  have hl := lv_entry ([.ref h0, .int p0, .int p1, .long p2]) (n := 6) (Nat.le_of_ble_eq_true rfl)
  rw [lg_entry_eq]
  generalize (lg_sl ([.ref h0, .int p0, .int p1, .long p2]) ++ List.replicate (6 - (lg_sl ([.ref h0, .int p0, .int p1, .long p2])).length) Slot.unset).toArray = ls at hl ⊢
  have hl : lv_has ls 6 [(0, .ref h0), (1, .int p0), (2, .int p1), (3, .long p2)] := hl
  refine lv_iload_n hx hb dX11_put_0 rfl (lv_at hl 1 rfl) ?_
  have hPc := hP.sub (ws' := []) [] rfl
  have hDc := hD.sub (ws' := []) [] (by decide) rfl
  refine vz_callSi (va_runS (As := [.int p0]) (rest := []) ⟨hx, hb, hml, hown, hts⟩ (c_isShelf l dC dI cy p0 s.heap.size) (va_cwS 1 hts gX11_put_X11_isShelf rfl rfl rfl (by decide +kernel) ⟨Nat.le_of_ble_eq_true rfl, Nat.le_of_ble_eq_true rfl⟩) (wp_S hK hN hPc hDc) rfl rfl hl.1 rfl (lv_room (Nat.le_of_ble_eq_true rfl)) dX11_put_1 ⟨Nat.le_of_ble_eq_true rfl, Nat.le_of_ble_eq_true rfl⟩) (fun r_1 hw_1 => ?_)
  rcases hw_1 with ⟨c_1, hw_1⟩ | ⟨c_1, hw_1⟩ <;> subst hw_1
  · have ic_1 : 0 ≤ p0.toInt ∧ p0.toInt ≤ 5 := c_1
    refine lv_if_ne (tgt := 9) hx hb dX11_put_4 (by decide) (fun _ => ?_) (fun c_2 => absurd c_2 (by decide))
    refine lv_aload_n hx hb dX11_put_9 rfl (lv_at hl 0 rfl) ?_
    refine va_get (D := (dC, dI)) (ci := 11) (v := .ref a12) (C := RX11) (T := TX11) (N := 13) hx hb hts (fun _ h9 => List.mem_cons_of_mem _ (List.mem_append_left _ (List.mem_append_right _ h9))) hown hK hP 0 rfl rfl 12 (by decide) (hts (.fieldLink RX11 98 "SeatsRound" "rows" "LSeatsRound$Rows;") (List.mem_of_getElem? (i := 1) rfl)) (fun _ h9 => h9) rfl dX11_put_10 ?_
    refine lv_iload_n hx hb dX11_put_13 rfl (lv_at hl 1 rfl) ?_
    refine lv_iload_n hx hb dX11_put_14 rfl (lv_at hl 2 rfl) ?_
    have hPc := hP.sub (ws' := [(a12, .inr (7, [.ref r0, .ref r1, .ref r2, .ref r3])), (r0, .inl (cy 0, 6, .inl (fun _ => (-1)))), (r1, .inl (cy 0, 6, .inl (fun _ => (-1))))]) [1, 2, 3] rfl
    have hDc := hD.sub (ws' := [(a12, .inr (7, [.ref r0, .ref r1, .ref r2, .ref r3])), (r0, .inl (cy 0, 6, .inl (fun _ => (-1)))), (r1, .inl (cy 0, 6, .inl (fun _ => (-1))))]) [1, 2, 3] (by decide) rfl
    refine vz_callSi (va_runV (As := [.int p0, .int p1]) (rest := []) ⟨hx, hb, hml, hown, hts⟩ (c_RW_refusalAt l dC dI cy a12 r0 r1 r2 r3 p0 p1 s.heap.size (by omega)) (cwV 2 hts gX11_put_X7_refusalAt rfl rfl rfl (by decide +kernel) ⟨Nat.le_of_ble_eq_true rfl, Nat.le_of_ble_eq_true rfl⟩) (wp_V hK hN hPc hDc (va_recv hK hPc (ci := 7) (q0 := 0) rfl rfl)) rfl rfl hl.1 rfl (lv_room (Nat.le_of_ble_eq_true rfl)) dX11_put_15 ⟨Nat.le_of_ble_eq_true rfl, Nat.le_of_ble_eq_true rfl⟩) (fun r_3 hw_3 => ?_)
    obtain rfl : r_3 = (-11) := hw_3
    change W _ _ _ _ _ _ _ _ _ _ _ _ _ _ _ (F0 m 18 ls [.int (-11)])
    refine lv_istore (lv' := [(5, .int (-11)), (0, .ref h0), (1, .int p0), (2, .int p1), (3, .long p2)]) hx hb dX11_put_18 hl (by decide) rfl (fun ls hl => ?_)
    refine lv_iload hx hb dX11_put_20 (lv_at hl 0 rfl) ?_
    refine lv_if_eq (tgt := 28) hx hb dX11_put_22 (by decide) (fun c_4 => absurd c_4 (by decide)) (fun _ => ?_)
    refine lv_iload hx hb dX11_put_25 (lv_at hl 0 rfl) ?_
    exact W.iret (v := (-11)) hx hb hr (fun t ht hW => ⟨⟨(-11), (), rfl, (by unfold sp_put; split <;> (try split) <;> first | rfl | (exfalso; omega)), trivial⟩, hS.F ht⟩) hS.2.2 dX11_put_27
  · have ic_1 : ¬ (0 ≤ p0.toInt ∧ p0.toInt ≤ 5) := c_1
    refine lv_if_ne (tgt := 9) hx hb dX11_put_4 (by decide) (fun c_5 => absurd c_5 (by decide)) (fun _ => ?_)
    refine lv_iconst (v := (-1)) hx hb dX11_put_7 (by decide) ?_
    exact W.iret (v := (-1)) hx hb hr (fun t ht hW => ⟨⟨(-1), (), rfl, (by unfold sp_put; split <;> (try split) <;> first | rfl | (exfalso; omega)), trivial⟩, hS.F ht⟩) hS.2.2 dX11_put_8
set_option maxHeartbeats 4000000 in
set_option maxRecDepth 100000 in
theorem c_element (l : Launch) (dC : Nat → ClassId) (dI : Nat → Nat → Nat) (cy : Nat → ClassId) (h0 : Nat) (a0 : Nat) (a1 : Nat) (a2 : Nat) (a3 : Nat) (a4 : Nat) (a5 : Nat) (a7 : Nat) (a8 : Nat) (a9 : Nat) (a10 : Nat) (a11 : Nat) (a12 : Nat) (r0 : Nat) (r1 : Nat) (r2 : Nat) (r3 : Nat) (p0 : Int32) (p1 : Int32) (sz : Nat)  : Met l yX11_element wsX11_element ({ frames := 3, cells := 0, slots := 0, locals := 66 }) (va_Pc [.ref h0, .int p0, .int p1] (wPre (dC, dI) cy [(h0, .inr (11, [.ref a0, .ref a1, .ref a2, .ref a3, .ref a4, .ref a5, .int 0, .ref a7, .ref a8, .ref a9, .ref a10, .ref a11, .ref a12])), (a12, .inr (7, [.ref r0, .ref r1, .ref r2, .ref r3])), (r0, .inl (cy 0, 6, .inl (fun _ => (-1)))), (r1, .inl (cy 0, 6, .inl (fun _ => (-1))))] sz)) (va_Ql (fun (r : Int64) (u : Unit) => r = -9223372036854775808) (fun (u : Unit) t => True) (va_A [(h0, .inr (11, [.ref a0, .ref a1, .ref a2, .ref a3, .ref a4, .ref a5, .int 0, .ref a7, .ref a8, .ref a9, .ref a10, .ref a11, .ref a12])), (a12, .inr (7, [.ref r0, .ref r1, .ref r2, .ref r3])), (r0, .inl (cy 0, 6, .inl (fun _ => (-1)))), (r1, .inl (cy 0, 6, .inl (fun _ => (-1))))] sz)) 0 0 (va_A [(h0, .inr (11, [.ref a0, .ref a1, .ref a2, .ref a3, .ref a4, .ref a5, .int 0, .ref a7, .ref a8, .ref a9, .ref a10, .ref a11, .ref a12])), (a12, .inr (7, [.ref r0, .ref r1, .ref r2, .ref r3])), (r0, .inl (cy 0, 6, .inl (fun _ => (-1)))), (r1, .inl (cy 0, 6, .inl (fun _ => (-1))))] sz) := by
  refine Met.ofW (cc := cX11_element) (maxL := 3) (ret := (some .long)) (by decide) rfl ?_
  intro p e s m args below meth c s₁ B hml hv
  obtain ⟨rfl, hsz, hP, hK, hD0, hN⟩ := hv
  have hx := B.exec
  have hb := B.bytes
  have hr := B.returns
  have hts := atoms_spec (ws := wsX11_element) B.pre
  have hown : s.vm.findClass RX11 = some m.cls := findClass_of_methodNamed B.named
  have hlocks := B.notSynchronized
  subst hsz
  have hD := hD0.self (sz := s.heap.size)
  generalize hAe : va_A [(h0, .inr (11, [.ref a0, .ref a1, .ref a2, .ref a3, .ref a4, .ref a5, .int 0, .ref a7, .ref a8, .ref a9, .ref a10, .ref a11, .ref a12])), (a12, .inr (7, [.ref r0, .ref r1, .ref r2, .ref r3])), (r0, .inl (cy 0, 6, .inl (fun _ => (-1)))), (r1, .inl (cy 0, 6, .inl (fun _ => (-1))))] s.heap.size = A at hD ⊢
  have hA : ∀ q : Nat, s.heap.size ≤ q → A q := fun q h => by rw [← hAe]; exact Or.inr h
  have hS : va_S A s.heap s.heap [] := va_S.rf
  have hl := lv_entry ([.ref h0, .int p0, .int p1]) (n := 3) (Nat.le_of_ble_eq_true rfl)
  rw [lg_entry_eq]
  generalize (lg_sl ([.ref h0, .int p0, .int p1]) ++ List.replicate (3 - (lg_sl ([.ref h0, .int p0, .int p1])).length) Slot.unset).toArray = ls at hl ⊢
  have hl : lv_has ls 3 [(0, .ref h0), (1, .int p0), (2, .int p1)] := hl
  refine lv_iload_n hx hb dX11_element_0 rfl (lv_at hl 1 rfl) ?_
  have hPc := hP.sub (ws' := []) [] rfl
  have hDc := hD.sub (ws' := []) [] (by decide) rfl
  refine vz_callSi (va_runS (As := [.int p0]) (rest := []) ⟨hx, hb, hml, hown, hts⟩ (c_isShelf l dC dI cy p0 s.heap.size) (va_cwS 1 hts gX11_element_X11_isShelf rfl rfl rfl (by decide +kernel) ⟨Nat.le_of_ble_eq_true rfl, Nat.le_of_ble_eq_true rfl⟩) (wp_S hK hN hPc hDc) rfl rfl hl.1 rfl (lv_room (Nat.le_of_ble_eq_true rfl)) dX11_element_1 ⟨Nat.le_of_ble_eq_true rfl, Nat.le_of_ble_eq_true rfl⟩) (fun r_1 hw_1 => ?_)
  rcases hw_1 with ⟨c_1, hw_1⟩ | ⟨c_1, hw_1⟩ <;> subst hw_1
  · have ic_1 : 0 ≤ p0.toInt ∧ p0.toInt ≤ 5 := c_1
    refine lv_if_eq (tgt := 19) hx hb dX11_element_4 (by decide) (fun c_2 => absurd c_2 (by decide)) (fun _ => ?_)
    refine lv_aload_n hx hb dX11_element_7 rfl (lv_at hl 0 rfl) ?_
    refine va_get (D := (dC, dI)) (ci := 11) (v := .ref a12) (C := RX11) (T := TX11) (N := 13) hx hb hts (fun _ h9 => List.mem_cons_of_mem _ (List.mem_append_left _ (List.mem_append_right _ h9))) hown hK hP 0 rfl rfl 12 (by decide) (hts (.fieldLink RX11 98 "SeatsRound" "rows" "LSeatsRound$Rows;") (List.mem_of_getElem? (i := 1) rfl)) (fun _ h9 => h9) rfl dX11_element_8 ?_
    refine lv_iload_n hx hb dX11_element_11 rfl (lv_at hl 1 rfl) ?_
    refine lv_iload_n hx hb dX11_element_12 rfl (lv_at hl 2 rfl) ?_
    have hPc := hP.sub (ws' := [(a12, .inr (7, [.ref r0, .ref r1, .ref r2, .ref r3])), (r0, .inl (cy 0, 6, .inl (fun _ => (-1)))), (r1, .inl (cy 0, 6, .inl (fun _ => (-1))))]) [1, 2, 3] rfl
    have hDc := hD.sub (ws' := [(a12, .inr (7, [.ref r0, .ref r1, .ref r2, .ref r3])), (r0, .inl (cy 0, 6, .inl (fun _ => (-1)))), (r1, .inl (cy 0, 6, .inl (fun _ => (-1))))]) [1, 2, 3] (by decide) rfl
    refine vz_callSi (va_runV (As := [.int p0, .int p1]) (rest := []) ⟨hx, hb, hml, hown, hts⟩ (c_RW_refusalAt l dC dI cy a12 r0 r1 r2 r3 p0 p1 s.heap.size (by omega)) (cwV 2 hts gX11_element_X7_refusalAt rfl rfl rfl (by decide +kernel) ⟨Nat.le_of_ble_eq_true rfl, Nat.le_of_ble_eq_true rfl⟩) (wp_V hK hN hPc hDc (va_recv hK hPc (ci := 7) (q0 := 0) rfl rfl)) rfl rfl hl.1 rfl (lv_room (Nat.le_of_ble_eq_true rfl)) dX11_element_13 ⟨Nat.le_of_ble_eq_true rfl, Nat.le_of_ble_eq_true rfl⟩) (fun r_3 hw_3 => ?_)
    obtain rfl : r_3 = (-11) := hw_3
    change W _ _ _ _ _ _ _ _ _ _ _ _ _ _ _ (F0 m 16 ls [.int (-11)])
    refine lv_if_eq (tgt := 23) hx hb dX11_element_16 (by decide) (fun c_4 => absurd c_4 (by decide)) (fun _ => ?_)
    refine lv_ldc2 hx hb hown (hts (.constantLong RX11 380 (-9223372036854775808)) (List.mem_of_getElem? (i := 2) rfl)) dX11_element_19 ?_
    exact W.lret (v := (-9223372036854775808)) hx hb hr (fun t ht hW => ⟨⟨(-9223372036854775808), (), rfl, rfl, trivial⟩, hS.F ht⟩) hS.2.2 dX11_element_22
  · have ic_1 : ¬ (0 ≤ p0.toInt ∧ p0.toInt ≤ 5) := c_1
    refine lv_if_eq (tgt := 19) hx hb dX11_element_4 (by decide) (fun _ => ?_) (fun c_5 => absurd c_5 (by decide))
    refine lv_ldc2 hx hb hown (hts (.constantLong RX11 380 (-9223372036854775808)) (List.mem_of_getElem? (i := 2) rfl)) dX11_element_19 ?_
    exact W.lret (v := (-9223372036854775808)) hx hb hr (fun t ht hW => ⟨⟨(-9223372036854775808), (), rfl, rfl, trivial⟩, hS.F ht⟩) hS.2.2 dX11_element_22
set_option maxHeartbeats 4000000 in
set_option maxRecDepth 100000 in
theorem c_shift (l : Launch) (dC : Nat → ClassId) (dI : Nat → Nat → Nat) (cy : Nat → ClassId) (h0 : Nat) (a0 : Nat) (a1 : Nat) (a2 : Nat) (a3 : Nat) (a4 : Nat) (a5 : Nat) (a7 : Nat) (a8 : Nat) (a9 : Nat) (a10 : Nat) (a11 : Nat) (a12 : Nat) (r0 : Nat) (r1 : Nat) (r2 : Nat) (r3 : Nat) (p0 : Int32) (p1 : Int32) (p2 : Int32) (p3 : Int32) (p4 : Int32) (sz : Nat)  : Met l yX11_shift wsX11_shift ({ frames := 2, cells := 0, slots := 0, locals := 44 }) (va_Pc [.ref h0, .int p0, .int p1, .int p2, .int p3, .int p4] (wPre (dC, dI) cy [(h0, .inr (11, [.ref a0, .ref a1, .ref a2, .ref a3, .ref a4, .ref a5, .int 0, .ref a7, .ref a8, .ref a9, .ref a10, .ref a11, .ref a12])), (a12, .inr (7, [.ref r0, .ref r1, .ref r2, .ref r3])), (r0, .inl (cy 0, 6, .inl (fun _ => (-1)))), (r1, .inl (cy 0, 6, .inl (fun _ => (-1))))] sz)) (va_Qi (fun (r : Int32) (u : Unit) => r = sp_shift p0 p2) (fun (u : Unit) t => True) (va_A [(h0, .inr (11, [.ref a0, .ref a1, .ref a2, .ref a3, .ref a4, .ref a5, .int 0, .ref a7, .ref a8, .ref a9, .ref a10, .ref a11, .ref a12])), (a12, .inr (7, [.ref r0, .ref r1, .ref r2, .ref r3])), (r0, .inl (cy 0, 6, .inl (fun _ => (-1)))), (r1, .inl (cy 0, 6, .inl (fun _ => (-1))))] sz)) 0 0 (va_A [(h0, .inr (11, [.ref a0, .ref a1, .ref a2, .ref a3, .ref a4, .ref a5, .int 0, .ref a7, .ref a8, .ref a9, .ref a10, .ref a11, .ref a12])), (a12, .inr (7, [.ref r0, .ref r1, .ref r2, .ref r3])), (r0, .inl (cy 0, 6, .inl (fun _ => (-1)))), (r1, .inl (cy 0, 6, .inl (fun _ => (-1))))] sz) := by
  refine Met.ofW (cc := cX11_shift) (maxL := 6) (ret := (some .int)) (by decide) rfl ?_
  intro p e s m args below meth c s₁ B hml hv
  obtain ⟨rfl, hsz, hP, hK, hD0, hN⟩ := hv
  have hx := B.exec
  have hb := B.bytes
  have hr := B.returns
  have hts := atoms_spec (ws := wsX11_shift) B.pre
  have hown : s.vm.findClass RX11 = some m.cls := findClass_of_methodNamed B.named
  have hlocks := B.notSynchronized
  subst hsz
  have hD := hD0.self (sz := s.heap.size)
  generalize hAe : va_A [(h0, .inr (11, [.ref a0, .ref a1, .ref a2, .ref a3, .ref a4, .ref a5, .int 0, .ref a7, .ref a8, .ref a9, .ref a10, .ref a11, .ref a12])), (a12, .inr (7, [.ref r0, .ref r1, .ref r2, .ref r3])), (r0, .inl (cy 0, 6, .inl (fun _ => (-1)))), (r1, .inl (cy 0, 6, .inl (fun _ => (-1))))] s.heap.size = A at hD ⊢
  have hA : ∀ q : Nat, s.heap.size ≤ q → A q := fun q h => by rw [← hAe]; exact Or.inr h
  have hS : va_S A s.heap s.heap [] := va_S.rf
  have hl := lv_entry ([.ref h0, .int p0, .int p1, .int p2, .int p3, .int p4]) (n := 6) (Nat.le_of_ble_eq_true rfl)
  rw [lg_entry_eq]
  generalize (lg_sl ([.ref h0, .int p0, .int p1, .int p2, .int p3, .int p4]) ++ List.replicate (6 - (lg_sl ([.ref h0, .int p0, .int p1, .int p2, .int p3, .int p4])).length) Slot.unset).toArray = ls at hl ⊢
  have hl : lv_has ls 6 [(0, .ref h0), (1, .int p0), (2, .int p1), (3, .int p2), (4, .int p3), (5, .int p4)] := hl
  refine lv_iload_n hx hb dX11_shift_0 rfl (lv_at hl 1 rfl) ?_
  have hPc := hP.sub (ws' := []) [] rfl
  have hDc := hD.sub (ws' := []) [] (by decide) rfl
  refine vz_callSi (va_runS (As := [.int p0]) (rest := []) ⟨hx, hb, hml, hown, hts⟩ (c_isShelf l dC dI cy p0 s.heap.size) (va_cwS 1 hts gX11_shift_X11_isShelf rfl rfl rfl (by decide +kernel) ⟨Nat.le_of_ble_eq_true rfl, Nat.le_of_ble_eq_true rfl⟩) (wp_S hK hN hPc hDc) rfl rfl hl.1 rfl (lv_room (Nat.le_of_ble_eq_true rfl)) dX11_shift_1 ⟨Nat.le_of_ble_eq_true rfl, Nat.le_of_ble_eq_true rfl⟩) (fun r_1 hw_1 => ?_)
  rcases hw_1 with ⟨c_1, hw_1⟩ | ⟨c_1, hw_1⟩ <;> subst hw_1
  · have ic_1 : 0 ≤ p0.toInt ∧ p0.toInt ≤ 5 := c_1
    refine lv_if_eq (tgt := 14) hx hb dX11_shift_4 (by decide) (fun c_2 => absurd c_2 (by decide)) (fun _ => ?_)
    refine lv_iload_n hx hb dX11_shift_7 rfl (lv_at hl 3 rfl) ?_
    have hPc := hP.sub (ws' := []) [] rfl
    have hDc := hD.sub (ws' := []) [] (by decide) rfl
    refine vz_callSi (va_runS (As := [.int p2]) (rest := []) ⟨hx, hb, hml, hown, hts⟩ (c_isShelf l dC dI cy p2 s.heap.size) (va_cwS 1 hts gX11_shift_X11_isShelf rfl rfl rfl (by decide +kernel) ⟨Nat.le_of_ble_eq_true rfl, Nat.le_of_ble_eq_true rfl⟩) (wp_S hK hN hPc hDc) rfl rfl hl.1 rfl (lv_room (Nat.le_of_ble_eq_true rfl)) dX11_shift_8 ⟨Nat.le_of_ble_eq_true rfl, Nat.le_of_ble_eq_true rfl⟩) (fun r_3 hw_3 => ?_)
    rcases hw_3 with ⟨c_3, hw_3⟩ | ⟨c_3, hw_3⟩ <;> subst hw_3
    · have ic_3 : 0 ≤ p2.toInt ∧ p2.toInt ≤ 5 := c_3
      refine lv_if_ne (tgt := 16) hx hb dX11_shift_11 (by decide) (fun _ => ?_) (fun c_4 => absurd c_4 (by decide))
      refine lv_aload_n hx hb dX11_shift_16 rfl (lv_at hl 0 rfl) ?_
      refine va_get (D := (dC, dI)) (ci := 11) (v := .ref a12) (C := RX11) (T := TX11) (N := 13) hx hb hts (fun _ h9 => List.mem_cons_of_mem _ (List.mem_append_left _ (List.mem_append_right _ h9))) hown hK hP 0 rfl rfl 12 (by decide) (hts (.fieldLink RX11 98 "SeatsRound" "rows" "LSeatsRound$Rows;") (List.mem_of_getElem? (i := 1) rfl)) (fun _ h9 => h9) rfl dX11_shift_17 ?_
      change W _ _ _ _ _ _ _ _ _ _ _ _ _ _ _ (F0 m 20 ls [.ref a12])
      refine lv_iload_n hx hb dX11_shift_20 rfl (lv_at hl 1 rfl) ?_
      have hPc := hP.sub (ws' := [(a12, .inr (7, [.ref r0, .ref r1, .ref r2, .ref r3])), (r0, .inl (cy 0, 6, .inl (fun _ => (-1)))), (r1, .inl (cy 0, 6, .inl (fun _ => (-1))))]) [1, 2, 3] rfl
      have hDc := hD.sub (ws' := [(a12, .inr (7, [.ref r0, .ref r1, .ref r2, .ref r3])), (r0, .inl (cy 0, 6, .inl (fun _ => (-1)))), (r1, .inl (cy 0, 6, .inl (fun _ => (-1))))]) [1, 2, 3] (by decide) rfl
      refine vz_callSi (va_runV (As := [.int p0]) (rest := []) ⟨hx, hb, hml, hown, hts⟩ (c_RW_isEmpty l dC dI cy a12 r0 r1 r2 r3 p0 s.heap.size (by omega)) (cwV 1 hts gX11_shift_X7_isEmpty rfl rfl rfl (by decide +kernel) ⟨Nat.le_of_ble_eq_true rfl, Nat.le_of_ble_eq_true rfl⟩) (wp_V hK hN hPc hDc (va_recv hK hPc (ci := 7) (q0 := 0) rfl rfl)) rfl rfl hl.1 rfl (lv_room (Nat.le_of_ble_eq_true rfl)) dX11_shift_21 ⟨Nat.le_of_ble_eq_true rfl, Nat.le_of_ble_eq_true rfl⟩) (fun r_5 hw_5 => ?_)
      obtain rfl : r_5 = 1 := hw_5
      refine lv_if_ne (tgt := 38) hx hb dX11_shift_24 (by decide) (fun _ => ?_) (fun c_6 => absurd c_6 (by decide))
      refine lv_bipush (v := (-11)) hx hb dX11_shift_38 (by decide) ?_
      exact W.iret (v := (-11)) hx hb hr (fun t ht hW => ⟨⟨(-11), (), rfl, (by unfold sp_shift; split <;> (try split) <;> first | rfl | (exfalso; omega)), trivial⟩, hS.F ht⟩) hS.2.2 dX11_shift_40
    · have ic_3 : ¬ (0 ≤ p2.toInt ∧ p2.toInt ≤ 5) := c_3
      refine lv_if_ne (tgt := 16) hx hb dX11_shift_11 (by decide) (fun c_7 => absurd c_7 (by decide)) (fun _ => ?_)
      refine lv_iconst (v := (-1)) hx hb dX11_shift_14 (by decide) ?_
      exact W.iret (v := (-1)) hx hb hr (fun t ht hW => ⟨⟨(-1), (), rfl, (by unfold sp_shift; split <;> (try split) <;> first | rfl | (exfalso; omega)), trivial⟩, hS.F ht⟩) hS.2.2 dX11_shift_15
  · have ic_1 : ¬ (0 ≤ p0.toInt ∧ p0.toInt ≤ 5) := c_1
    refine lv_if_eq (tgt := 14) hx hb dX11_shift_4 (by decide) (fun _ => ?_) (fun c_8 => absurd c_8 (by decide))
    refine lv_iconst (v := (-1)) hx hb dX11_shift_14 (by decide) ?_
    change W _ _ _ _ _ _ _ _ _ _ _ _ _ _ _ (F0 m 15 ls [.int (-1)])
    exact W.iret (v := (-1)) hx hb hr (fun t ht hW => ⟨⟨(-1), (), rfl, (by unfold sp_shift; split <;> (try split) <;> first | rfl | (exfalso; omega)), trivial⟩, hS.F ht⟩) hS.2.2 dX11_shift_15
set_option maxHeartbeats 4000000 in
set_option maxRecDepth 100000 in
theorem c_taken (l : Launch) (dC : Nat → ClassId) (dI : Nat → Nat → Nat) (cy : Nat → ClassId) (h0 : Nat) (a0 : Nat) (a1 : Nat) (a2 : Nat) (a3 : Nat) (a4 : Nat) (a5 : Nat) (a7 : Nat) (a8 : Nat) (a9 : Nat) (a10 : Nat) (a11 : Nat) (a12 : Nat) (r0 : Nat) (r1 : Nat) (r2 : Nat) (r3 : Nat) (p0 : Int32) (p1 : Int32) (sz : Nat)  : Met l yX11_taken wsX11_taken ({ frames := 2, cells := 0, slots := 0, locals := 44 }) (va_Pc [.ref h0, .int p0, .int p1] (wPre (dC, dI) cy [(h0, .inr (11, [.ref a0, .ref a1, .ref a2, .ref a3, .ref a4, .ref a5, .int 0, .ref a7, .ref a8, .ref a9, .ref a10, .ref a11, .ref a12])), (a12, .inr (7, [.ref r0, .ref r1, .ref r2, .ref r3])), (r0, .inl (cy 0, 6, .inl (fun _ => (-1)))), (r1, .inl (cy 0, 6, .inl (fun _ => (-1))))] sz)) (va_Qi (fun (r : Int32) (u : Unit) => r = sp_taken p0 p1) (fun (u : Unit) t => True) (va_A [(h0, .inr (11, [.ref a0, .ref a1, .ref a2, .ref a3, .ref a4, .ref a5, .int 0, .ref a7, .ref a8, .ref a9, .ref a10, .ref a11, .ref a12])), (a12, .inr (7, [.ref r0, .ref r1, .ref r2, .ref r3])), (r0, .inl (cy 0, 6, .inl (fun _ => (-1)))), (r1, .inl (cy 0, 6, .inl (fun _ => (-1))))] sz)) 0 0 (va_A [(h0, .inr (11, [.ref a0, .ref a1, .ref a2, .ref a3, .ref a4, .ref a5, .int 0, .ref a7, .ref a8, .ref a9, .ref a10, .ref a11, .ref a12])), (a12, .inr (7, [.ref r0, .ref r1, .ref r2, .ref r3])), (r0, .inl (cy 0, 6, .inl (fun _ => (-1)))), (r1, .inl (cy 0, 6, .inl (fun _ => (-1))))] sz) := by
  refine Met.ofW (cc := cX11_taken) (maxL := 5) (ret := (some .int)) (by decide) rfl ?_
  intro p e s m args below meth c s₁ B hml hv
  obtain ⟨rfl, hsz, hP, hK, hD0, hN⟩ := hv
  have hx := B.exec
  have hb := B.bytes
  have hr := B.returns
  have hts := atoms_spec (ws := wsX11_taken) B.pre
  have hown : s.vm.findClass RX11 = some m.cls := findClass_of_methodNamed B.named
  have hlocks := B.notSynchronized
  subst hsz
  have hD := hD0.self (sz := s.heap.size)
  generalize hAe : va_A [(h0, .inr (11, [.ref a0, .ref a1, .ref a2, .ref a3, .ref a4, .ref a5, .int 0, .ref a7, .ref a8, .ref a9, .ref a10, .ref a11, .ref a12])), (a12, .inr (7, [.ref r0, .ref r1, .ref r2, .ref r3])), (r0, .inl (cy 0, 6, .inl (fun _ => (-1)))), (r1, .inl (cy 0, 6, .inl (fun _ => (-1))))] s.heap.size = A at hD ⊢
  have hA : ∀ q : Nat, s.heap.size ≤ q → A q := fun q h => by rw [← hAe]; exact Or.inr h
  have hS : va_S A s.heap s.heap [] := va_S.rf
  have hl := lv_entry ([.ref h0, .int p0, .int p1]) (n := 5) (Nat.le_of_ble_eq_true rfl)
  rw [lg_entry_eq]
  generalize (lg_sl ([.ref h0, .int p0, .int p1]) ++ List.replicate (5 - (lg_sl ([.ref h0, .int p0, .int p1])).length) Slot.unset).toArray = ls at hl ⊢
  have hl : lv_has ls 5 [(0, .ref h0), (1, .int p0), (2, .int p1)] := hl
  refine lv_iload_n hx hb dX11_taken_0 rfl (lv_at hl 1 rfl) ?_
  have hPc := hP.sub (ws' := []) [] rfl
  have hDc := hD.sub (ws' := []) [] (by decide) rfl
  refine vz_callSi (va_runS (As := [.int p0]) (rest := []) ⟨hx, hb, hml, hown, hts⟩ (c_isShelf l dC dI cy p0 s.heap.size) (va_cwS 1 hts gX11_taken_X11_isShelf rfl rfl rfl (by decide +kernel) ⟨Nat.le_of_ble_eq_true rfl, Nat.le_of_ble_eq_true rfl⟩) (wp_S hK hN hPc hDc) rfl rfl hl.1 rfl (lv_room (Nat.le_of_ble_eq_true rfl)) dX11_taken_1 ⟨Nat.le_of_ble_eq_true rfl, Nat.le_of_ble_eq_true rfl⟩) (fun r_1 hw_1 => ?_)
  rcases hw_1 with ⟨c_1, hw_1⟩ | ⟨c_1, hw_1⟩ <;> subst hw_1
  · have ic_1 : 0 ≤ p0.toInt ∧ p0.toInt ≤ 5 := c_1
    refine lv_if_eq (tgt := 14) hx hb dX11_taken_4 (by decide) (fun c_2 => absurd c_2 (by decide)) (fun _ => ?_)
    change W _ _ _ _ _ _ _ _ _ _ _ _ _ _ _ (F0 m 7 ls [])
    refine lv_iload_n hx hb dX11_taken_7 rfl (lv_at hl 2 rfl) ?_
    have hPc := hP.sub (ws' := []) [] rfl
    have hDc := hD.sub (ws' := []) [] (by decide) rfl
    refine vz_callSi (va_runS (As := [.int p1]) (rest := []) ⟨hx, hb, hml, hown, hts⟩ (c_isKind l dC dI cy p1 s.heap.size) (va_cwS 1 hts gX11_taken_X11_isKind rfl rfl rfl (by decide +kernel) ⟨Nat.le_of_ble_eq_true rfl, Nat.le_of_ble_eq_true rfl⟩) (wp_S hK hN hPc hDc) rfl rfl hl.1 rfl (lv_room (Nat.le_of_ble_eq_true rfl)) dX11_taken_8 ⟨Nat.le_of_ble_eq_true rfl, Nat.le_of_ble_eq_true rfl⟩) (fun r_3 hw_3 => ?_)
    rcases hw_3 with ⟨c_3, hw_3⟩ | ⟨c_3, hw_3⟩ <;> subst hw_3
    · have ic_3 : 0 ≤ p1.toInt ∧ p1.toInt ≤ 6 := c_3
      refine lv_if_ne (tgt := 16) hx hb dX11_taken_11 (by decide) (fun _ => ?_) (fun c_4 => absurd c_4 (by decide))
      refine lv_aload_n hx hb dX11_taken_16 rfl (lv_at hl 0 rfl) ?_
      refine va_get (D := (dC, dI)) (ci := 11) (v := .ref a12) (C := RX11) (T := TX11) (N := 13) hx hb hts (fun _ h9 => List.mem_cons_of_mem _ (List.mem_append_left _ (List.mem_append_left _ (List.mem_append_right _ h9)))) hown hK hP 0 rfl rfl 12 (by decide) (hts (.fieldLink RX11 98 "SeatsRound" "rows" "LSeatsRound$Rows;") (List.mem_of_getElem? (i := 1) rfl)) (fun _ h9 => h9) rfl dX11_taken_17 ?_
      refine lv_iload_n hx hb dX11_taken_20 rfl (lv_at hl 1 rfl) ?_
      have hPc := hP.sub (ws' := [(a12, .inr (7, [.ref r0, .ref r1, .ref r2, .ref r3])), (r0, .inl (cy 0, 6, .inl (fun _ => (-1)))), (r1, .inl (cy 0, 6, .inl (fun _ => (-1))))]) [1, 2, 3] rfl
      have hDc := hD.sub (ws' := [(a12, .inr (7, [.ref r0, .ref r1, .ref r2, .ref r3])), (r0, .inl (cy 0, 6, .inl (fun _ => (-1)))), (r1, .inl (cy 0, 6, .inl (fun _ => (-1))))]) [1, 2, 3] (by decide) rfl
      refine vz_callSi (va_runV (As := [.int p0]) (rest := []) ⟨hx, hb, hml, hown, hts⟩ (c_RW_isEmpty l dC dI cy a12 r0 r1 r2 r3 p0 s.heap.size (by omega)) (cwV 1 hts gX11_taken_X7_isEmpty rfl rfl rfl (by decide +kernel) ⟨Nat.le_of_ble_eq_true rfl, Nat.le_of_ble_eq_true rfl⟩) (wp_V hK hN hPc hDc (va_recv hK hPc (ci := 7) (q0 := 0) rfl rfl)) rfl rfl hl.1 rfl (lv_room (Nat.le_of_ble_eq_true rfl)) dX11_taken_21 ⟨Nat.le_of_ble_eq_true rfl, Nat.le_of_ble_eq_true rfl⟩) (fun r_5 hw_5 => ?_)
      obtain rfl : r_5 = 1 := hw_5
      refine lv_if_eq (tgt := 30) hx hb dX11_taken_24 (by decide) (fun c_6 => absurd c_6 (by decide)) (fun _ => ?_)
      refine lv_bipush (v := (-11)) hx hb dX11_taken_27 (by decide) ?_
      change W _ _ _ _ _ _ _ _ _ _ _ _ _ _ _ (F0 m 29 ls [.int (-11)])
      exact W.iret (v := (-11)) hx hb hr (fun t ht hW => ⟨⟨(-11), (), rfl, (by unfold sp_taken; split <;> (try split) <;> first | rfl | (exfalso; omega)), trivial⟩, hS.F ht⟩) hS.2.2 dX11_taken_29
    · have ic_3 : ¬ (0 ≤ p1.toInt ∧ p1.toInt ≤ 6) := c_3
      refine lv_if_ne (tgt := 16) hx hb dX11_taken_11 (by decide) (fun c_7 => absurd c_7 (by decide)) (fun _ => ?_)
      refine lv_iconst (v := (-1)) hx hb dX11_taken_14 (by decide) ?_
      exact W.iret (v := (-1)) hx hb hr (fun t ht hW => ⟨⟨(-1), (), rfl, (by unfold sp_taken; split <;> (try split) <;> first | rfl | (exfalso; omega)), trivial⟩, hS.F ht⟩) hS.2.2 dX11_taken_15
  · have ic_1 : ¬ (0 ≤ p0.toInt ∧ p0.toInt ≤ 5) := c_1
    refine lv_if_eq (tgt := 14) hx hb dX11_taken_4 (by decide) (fun _ => ?_) (fun c_8 => absurd c_8 (by decide))
    refine lv_iconst (v := (-1)) hx hb dX11_taken_14 (by decide) ?_
    exact W.iret (v := (-1)) hx hb hr (fun t ht hW => ⟨⟨(-1), (), rfl, (by unfold sp_taken; split <;> (try split) <;> first | rfl | (exfalso; omega)), trivial⟩, hS.F ht⟩) hS.2.2 dX11_taken_15
set_option maxHeartbeats 4000000 in
set_option maxRecDepth 100000 in
theorem c_names (l : Launch) (dC : Nat → ClassId) (dI : Nat → Nat → Nat) (cy : Nat → ClassId) (h0 : Nat) (a0 : Nat) (a1 : Nat) (a2 : Nat) (a3 : Nat) (a4 : Nat) (a5 : Nat) (a7 : Nat) (a8 : Nat) (a9 : Nat) (a10 : Nat) (a11 : Nat) (a12 : Nat) (r0 : Nat) (r1 : Nat) (r2 : Nat) (r3 : Nat) (p0 : Int32) (p1 : Int32) (p2 : Int32) (sz : Nat)  : Met l yX11_names wsX11_names ({ frames := 2, cells := 0, slots := 0, locals := 44 }) (va_Pc [.ref h0, .int p0, .int p1, .int p2] (wPre (dC, dI) cy [(h0, .inr (11, [.ref a0, .ref a1, .ref a2, .ref a3, .ref a4, .ref a5, .int 0, .ref a7, .ref a8, .ref a9, .ref a10, .ref a11, .ref a12])), (a12, .inr (7, [.ref r0, .ref r1, .ref r2, .ref r3])), (r0, .inl (cy 0, 6, .inl (fun _ => (-1)))), (r1, .inl (cy 0, 6, .inl (fun _ => (-1))))] sz)) (va_Qi (fun (r : Int32) (u : Unit) => r = sp_names p0 p2) (fun (u : Unit) t => True) (va_A [(h0, .inr (11, [.ref a0, .ref a1, .ref a2, .ref a3, .ref a4, .ref a5, .int 0, .ref a7, .ref a8, .ref a9, .ref a10, .ref a11, .ref a12])), (a12, .inr (7, [.ref r0, .ref r1, .ref r2, .ref r3])), (r0, .inl (cy 0, 6, .inl (fun _ => (-1)))), (r1, .inl (cy 0, 6, .inl (fun _ => (-1))))] sz)) 0 0 (va_A [(h0, .inr (11, [.ref a0, .ref a1, .ref a2, .ref a3, .ref a4, .ref a5, .int 0, .ref a7, .ref a8, .ref a9, .ref a10, .ref a11, .ref a12])), (a12, .inr (7, [.ref r0, .ref r1, .ref r2, .ref r3])), (r0, .inl (cy 0, 6, .inl (fun _ => (-1)))), (r1, .inl (cy 0, 6, .inl (fun _ => (-1))))] sz) := by
  refine Met.ofW (cc := cX11_names) (maxL := 4) (ret := (some .int)) (by decide) rfl ?_
  intro p e s m args below meth c s₁ B hml hv
  obtain ⟨rfl, hsz, hP, hK, hD0, hN⟩ := hv
  have hx := B.exec
  have hb := B.bytes
  have hr := B.returns
  have hts := atoms_spec (ws := wsX11_names) B.pre
  have hown : s.vm.findClass RX11 = some m.cls := findClass_of_methodNamed B.named
  have hlocks := B.notSynchronized
  subst hsz
  have hD := hD0.self (sz := s.heap.size)
  generalize hAe : va_A [(h0, .inr (11, [.ref a0, .ref a1, .ref a2, .ref a3, .ref a4, .ref a5, .int 0, .ref a7, .ref a8, .ref a9, .ref a10, .ref a11, .ref a12])), (a12, .inr (7, [.ref r0, .ref r1, .ref r2, .ref r3])), (r0, .inl (cy 0, 6, .inl (fun _ => (-1)))), (r1, .inl (cy 0, 6, .inl (fun _ => (-1))))] s.heap.size = A at hD ⊢
  have hA : ∀ q : Nat, s.heap.size ≤ q → A q := fun q h => by rw [← hAe]; exact Or.inr h
  have hS : va_S A s.heap s.heap [] := va_S.rf
  have hl := lv_entry ([.ref h0, .int p0, .int p1, .int p2]) (n := 4) (Nat.le_of_ble_eq_true rfl)
  rw [lg_entry_eq]
  generalize (lg_sl ([.ref h0, .int p0, .int p1, .int p2]) ++ List.replicate (4 - (lg_sl ([.ref h0, .int p0, .int p1, .int p2])).length) Slot.unset).toArray = ls at hl ⊢
  have hl : lv_has ls 4 [(0, .ref h0), (1, .int p0), (2, .int p1), (3, .int p2)] := hl
  refine lv_iload_n hx hb dX11_names_0 rfl (lv_at hl 1 rfl) ?_
  have hPc := hP.sub (ws' := []) [] rfl
  have hDc := hD.sub (ws' := []) [] (by decide) rfl
  refine vz_callSi (va_runS (As := [.int p0]) (rest := []) ⟨hx, hb, hml, hown, hts⟩ (c_isShelf l dC dI cy p0 s.heap.size) (va_cwS 1 hts gX11_names_X11_isShelf rfl rfl rfl (by decide +kernel) ⟨Nat.le_of_ble_eq_true rfl, Nat.le_of_ble_eq_true rfl⟩) (wp_S hK hN hPc hDc) rfl rfl hl.1 rfl (lv_room (Nat.le_of_ble_eq_true rfl)) dX11_names_1 ⟨Nat.le_of_ble_eq_true rfl, Nat.le_of_ble_eq_true rfl⟩) (fun r_1 hw_1 => ?_)
  rcases hw_1 with ⟨c_1, hw_1⟩ | ⟨c_1, hw_1⟩ <;> subst hw_1
  · have ic_1 : 0 ≤ p0.toInt ∧ p0.toInt ≤ 5 := c_1
    refine lv_if_eq (tgt := 18) hx hb dX11_names_4 (by decide) (fun c_2 => absurd c_2 (by decide)) (fun _ => ?_)
    refine lv_iload_n hx hb dX11_names_7 rfl (lv_at hl 3 rfl) ?_
    refine lv_iconst (v := 1) hx hb dX11_names_8 (by decide) ?_
    change W _ _ _ _ _ _ _ _ _ _ _ _ _ _ _ (F0 m 9 ls [.int 1, .int p2])
    refine lv_icmp_lt (tgt := 18) hx hb dX11_names_9 (by decide) (fun c_3 => ?_) (fun c_3 => ?_)
    · have ic_3 : p2.toInt < (1 : Int) := Int32.lt_iff_toInt_lt.mp c_3
      refine lv_iconst (v := (-1)) hx hb dX11_names_18 (by decide) ?_
      exact W.iret (v := (-1)) hx hb hr (fun t ht hW => ⟨⟨(-1), (), rfl, (by unfold sp_names; split <;> (try split) <;> first | rfl | (exfalso; omega)), trivial⟩, hS.F ht⟩) hS.2.2 dX11_names_19
    · have ic_3 : ¬ p2.toInt < (1 : Int) := fun h9 => c_3 (Int32.lt_iff_toInt_lt.mpr h9)
      refine lv_iload_n hx hb dX11_names_12 rfl (lv_at hl 3 rfl) ?_
      refine lv_bipush (v := 20) hx hb dX11_names_13 (by decide) ?_
      refine lv_icmp_le (tgt := 20) hx hb dX11_names_15 (by decide) (fun c_4 => ?_) (fun c_4 => ?_)
      · have ic_4 : p2.toInt ≤ (20 : Int) := Int32.le_iff_toInt_le.mp c_4
        refine lv_aload_n hx hb dX11_names_20 rfl (lv_at hl 0 rfl) ?_
        refine va_get (D := (dC, dI)) (ci := 11) (v := .ref a12) (C := RX11) (T := TX11) (N := 13) hx hb hts (fun _ h9 => List.mem_cons_of_mem _ (List.mem_append_left _ (List.mem_append_left _ (List.mem_append_right _ h9)))) hown hK hP 0 rfl rfl 12 (by decide) (hts (.fieldLink RX11 98 "SeatsRound" "rows" "LSeatsRound$Rows;") (List.mem_of_getElem? (i := 1) rfl)) (fun _ h9 => h9) rfl dX11_names_21 ?_
        refine lv_iload_n hx hb dX11_names_24 rfl (lv_at hl 1 rfl) ?_
        have hPc := hP.sub (ws' := [(a12, .inr (7, [.ref r0, .ref r1, .ref r2, .ref r3])), (r0, .inl (cy 0, 6, .inl (fun _ => (-1)))), (r1, .inl (cy 0, 6, .inl (fun _ => (-1))))]) [1, 2, 3] rfl
        have hDc := hD.sub (ws' := [(a12, .inr (7, [.ref r0, .ref r1, .ref r2, .ref r3])), (r0, .inl (cy 0, 6, .inl (fun _ => (-1)))), (r1, .inl (cy 0, 6, .inl (fun _ => (-1))))]) [1, 2, 3] (by decide) rfl
        refine vz_callSi (va_runV (As := [.int p0]) (rest := []) ⟨hx, hb, hml, hown, hts⟩ (c_RW_isEmpty l dC dI cy a12 r0 r1 r2 r3 p0 s.heap.size (by omega)) (cwV 1 hts gX11_names_X7_isEmpty rfl rfl rfl (by decide +kernel) ⟨Nat.le_of_ble_eq_true rfl, Nat.le_of_ble_eq_true rfl⟩) (wp_V hK hN hPc hDc (va_recv hK hPc (ci := 7) (q0 := 0) rfl rfl)) rfl rfl hl.1 rfl (lv_room (Nat.le_of_ble_eq_true rfl)) dX11_names_25 ⟨Nat.le_of_ble_eq_true rfl, Nat.le_of_ble_eq_true rfl⟩) (fun r_5 hw_5 => ?_)
        obtain rfl : r_5 = 1 := hw_5
        refine lv_if_eq (tgt := 33) hx hb dX11_names_28 (by decide) (fun c_6 => absurd c_6 (by decide)) (fun _ => ?_)
        change W _ _ _ _ _ _ _ _ _ _ _ _ _ _ _ (F0 m 31 ls [])
        refine lv_iconst (v := 0) hx hb dX11_names_31 (by decide) ?_
        exact W.iret (v := 0) hx hb hr (fun t ht hW => ⟨⟨0, (), rfl, (by unfold sp_names; split <;> (try split) <;> first | rfl | (exfalso; omega)), trivial⟩, hS.F ht⟩) hS.2.2 dX11_names_32
      · have ic_4 : ¬ p2.toInt ≤ (20 : Int) := fun h9 => c_4 (Int32.le_iff_toInt_le.mpr h9)
        refine lv_iconst (v := (-1)) hx hb dX11_names_18 (by decide) ?_
        exact W.iret (v := (-1)) hx hb hr (fun t ht hW => ⟨⟨(-1), (), rfl, (by unfold sp_names; split <;> (try split) <;> first | rfl | (exfalso; omega)), trivial⟩, hS.F ht⟩) hS.2.2 dX11_names_19
  · have ic_1 : ¬ (0 ≤ p0.toInt ∧ p0.toInt ≤ 5) := c_1
    refine lv_if_eq (tgt := 18) hx hb dX11_names_4 (by decide) (fun _ => ?_) (fun c_7 => absurd c_7 (by decide))
    refine lv_iconst (v := (-1)) hx hb dX11_names_18 (by decide) ?_
    exact W.iret (v := (-1)) hx hb hr (fun t ht hW => ⟨⟨(-1), (), rfl, (by unfold sp_names; split <;> (try split) <;> first | rfl | (exfalso; omega)), trivial⟩, hS.F ht⟩) hS.2.2 dX11_names_19
set_option maxHeartbeats 4000000 in
set_option maxRecDepth 100000 in
theorem c_count (l : Launch) (dC : Nat → ClassId) (dI : Nat → Nat → Nat) (cy : Nat → ClassId) (h0 : Nat) (a0 : Nat) (a1 : Nat) (a2 : Nat) (a3 : Nat) (a4 : Nat) (a5 : Nat) (a7 : Nat) (a8 : Nat) (a9 : Nat) (a10 : Nat) (a11 : Nat) (a12 : Nat) (c0 : Nat) (c1 : Nat) (c2 : Nat) (k0 : Nat) (k1 : Nat) (k2 : Nat) (k3 : Nat) (k4 : Nat) (b0 : Nat) (e0 : Nat) (e1 : Nat) (e2 : Nat) (e3 : Nat) (e4 : Nat) (e5 : Nat) (e6 : Nat) (e7 : Nat) (x0 : Nat) (p0 : Int32) (sz : Nat)  : Met l yX11_count wsX11_count ({ frames := 2, cells := 0, slots := 0, locals := 45 }) (va_Pc [.ref h0, .int p0] (wPre (dC, dI) cy [(h0, .inr (11, [.ref a0, .ref a1, .ref a2, .ref a3, .ref a4, .ref a5, .int 0, .ref a7, .ref a8, .ref a9, .ref a10, .ref a11, .ref a12])), (a1, .inr (4, [.ref c0, .ref c1, .ref c2, .int 0])), (a2, .inr (2, [.ref k0, .ref k1, .ref k2, .ref k3, .ref k4, .int 0])), (a0, .inr (9, [.ref b0, .int 0])), (a8, .inr (6, [.ref e0, .ref e1, .ref e2, .ref e3, .ref e4, .ref e5, .ref e6, .ref e7, .int 0, .ref a2, .ref a1, .ref a4])), (a11, .inr (0, [.ref x0, .int 0, .int 0, .int 0, .int 0]))] sz)) (va_Qi (fun (r : Int32) (u : Unit) => r = sp_count p0) (fun (u : Unit) t => True) (va_A [(h0, .inr (11, [.ref a0, .ref a1, .ref a2, .ref a3, .ref a4, .ref a5, .int 0, .ref a7, .ref a8, .ref a9, .ref a10, .ref a11, .ref a12])), (a1, .inr (4, [.ref c0, .ref c1, .ref c2, .int 0])), (a2, .inr (2, [.ref k0, .ref k1, .ref k2, .ref k3, .ref k4, .int 0])), (a0, .inr (9, [.ref b0, .int 0])), (a8, .inr (6, [.ref e0, .ref e1, .ref e2, .ref e3, .ref e4, .ref e5, .ref e6, .ref e7, .int 0, .ref a2, .ref a1, .ref a4])), (a11, .inr (0, [.ref x0, .int 0, .int 0, .int 0, .int 0]))] sz)) 0 0 (va_A [(h0, .inr (11, [.ref a0, .ref a1, .ref a2, .ref a3, .ref a4, .ref a5, .int 0, .ref a7, .ref a8, .ref a9, .ref a10, .ref a11, .ref a12])), (a1, .inr (4, [.ref c0, .ref c1, .ref c2, .int 0])), (a2, .inr (2, [.ref k0, .ref k1, .ref k2, .ref k3, .ref k4, .int 0])), (a0, .inr (9, [.ref b0, .int 0])), (a8, .inr (6, [.ref e0, .ref e1, .ref e2, .ref e3, .ref e4, .ref e5, .ref e6, .ref e7, .int 0, .ref a2, .ref a1, .ref a4])), (a11, .inr (0, [.ref x0, .int 0, .int 0, .int 0, .int 0]))] sz) := by
  refine Met.ofW (cc := cX11_count) (maxL := 2) (ret := (some .int)) (by decide) rfl ?_
  intro p e s m args below meth c s₁ B hml hv
  obtain ⟨rfl, hsz, hP, hK, hD0, hN⟩ := hv
  have hx := B.exec
  have hb := B.bytes
  have hr := B.returns
  have hts := atoms_spec (ws := wsX11_count) B.pre
  have hown : s.vm.findClass RX11 = some m.cls := findClass_of_methodNamed B.named
  have hlocks := B.notSynchronized
  subst hsz
  have hD := hD0.self (sz := s.heap.size)
  generalize hAe : va_A [(h0, .inr (11, [.ref a0, .ref a1, .ref a2, .ref a3, .ref a4, .ref a5, .int 0, .ref a7, .ref a8, .ref a9, .ref a10, .ref a11, .ref a12])), (a1, .inr (4, [.ref c0, .ref c1, .ref c2, .int 0])), (a2, .inr (2, [.ref k0, .ref k1, .ref k2, .ref k3, .ref k4, .int 0])), (a0, .inr (9, [.ref b0, .int 0])), (a8, .inr (6, [.ref e0, .ref e1, .ref e2, .ref e3, .ref e4, .ref e5, .ref e6, .ref e7, .int 0, .ref a2, .ref a1, .ref a4])), (a11, .inr (0, [.ref x0, .int 0, .int 0, .int 0, .int 0]))] s.heap.size = A at hD ⊢
  have hA : ∀ q : Nat, s.heap.size ≤ q → A q := fun q h => by rw [← hAe]; exact Or.inr h
  have hS : va_S A s.heap s.heap [] := va_S.rf
  have hl := lv_entry ([.ref h0, .int p0]) (n := 2) (Nat.le_of_ble_eq_true rfl)
  rw [lg_entry_eq]
  generalize (lg_sl ([.ref h0, .int p0]) ++ List.replicate (2 - (lg_sl ([.ref h0, .int p0])).length) Slot.unset).toArray = ls at hl ⊢
  have hl : lv_has ls 2 [(0, .ref h0), (1, .int p0)] := hl
  refine lv_iload_n hx hb dX11_count_0 rfl (lv_at hl 1 rfl) ?_
  rcases vz_sw 7 p0 with ⟨j9, hj9, ej9⟩ | hout
  · match j9, hj9, ej9 with
    | 0, _, ej9 =>
      refine lv_tableIn (off := 47) (tgt := 48) hx hb dX11_count_1 (by rw [ej9]; decide) (by rw [ej9]; decide) (by rw [ej9]; rfl) (by decide) ?_
      have iej9 : p0.toInt = (0 : Int) := congrArg Int32.toInt ej9
      refine lv_aload_n hx hb dX11_count_48 rfl (lv_at hl 0 rfl) ?_
      refine va_get (D := (dC, dI)) (ci := 11) (v := .ref a1) (C := RX11) (T := TX11) (N := 13) hx hb hts (fun _ h9 => List.mem_cons_of_mem _ (List.mem_append_left _ (List.mem_append_left _ (List.mem_append_left _ (List.mem_append_left _ (List.mem_append_left _ (List.mem_append_right _ h9))))))) hown hK hP 0 rfl rfl 1 (by decide) (hts (.fieldLink RX11 19 "SeatsRound" "nameList" "LSeatsRound$NameList;") (List.mem_of_getElem? (i := 1) rfl)) (fun _ h9 => h9) rfl dX11_count_49 ?_
      change W _ _ _ _ _ _ _ _ _ _ _ _ _ _ _ (F0 m 52 ls [.ref a1])
      refine va_get (D := (dC, dI)) (ci := 4) (v := .int 0) (C := RX4) (T := TX4) (N := 4) hx hb hts (fun _ h9 => List.mem_cons_of_mem _ (List.mem_append_left _ (List.mem_append_left _ (List.mem_append_left _ (List.mem_append_left _ (List.mem_append_right _ h9)))))) hown hK hP 1 rfl rfl 3 (by decide) (hts (.fieldLink RX11 117 "SeatsRound$NameList" "count" "I") (List.mem_of_getElem? (i := 2) rfl)) (fun _ h9 => h9) rfl dX11_count_52 ?_
      exact W.iret (v := 0) hx hb hr (fun t ht hW => ⟨⟨0, (), rfl, (by unfold sp_count; split <;> first | rfl | (exfalso; omega)), trivial⟩, hS.F ht⟩) hS.2.2 dX11_count_55
    | 1, _, ej9 =>
      refine lv_tableIn (off := 55) (tgt := 56) hx hb dX11_count_1 (by rw [ej9]; decide) (by rw [ej9]; decide) (by rw [ej9]; rfl) (by decide) ?_
      have iej9 : p0.toInt = (1 : Int) := congrArg Int32.toInt ej9
      refine lv_aload_n hx hb dX11_count_56 rfl (lv_at hl 0 rfl) ?_
      refine va_get (D := (dC, dI)) (ci := 11) (v := .ref a2) (C := RX11) (T := TX11) (N := 13) hx hb hts (fun _ h9 => List.mem_cons_of_mem _ (List.mem_append_left _ (List.mem_append_left _ (List.mem_append_left _ (List.mem_append_left _ (List.mem_append_left _ (List.mem_append_right _ h9))))))) hown hK hP 0 rfl rfl 2 (by decide) (hts (.fieldLink RX11 26 "SeatsRound" "keepers" "LSeatsRound$Keepers;") (List.mem_of_getElem? (i := 3) rfl)) (fun _ h9 => h9) rfl dX11_count_57 ?_
      refine va_get (D := (dC, dI)) (ci := 2) (v := .int 0) (C := RX2) (T := TX2) (N := 6) hx hb hts (fun _ h9 => List.mem_cons_of_mem _ (List.mem_append_left _ (List.mem_append_left _ (List.mem_append_left _ (List.mem_append_right _ h9))))) hown hK hP 2 rfl rfl 5 (by decide) (hts (.fieldLink RX11 134 "SeatsRound$Keepers" "count" "I") (List.mem_of_getElem? (i := 4) rfl)) (fun _ h9 => h9) rfl dX11_count_60 ?_
      exact W.iret (v := 0) hx hb hr (fun t ht hW => ⟨⟨0, (), rfl, (by unfold sp_count; split <;> first | rfl | (exfalso; omega)), trivial⟩, hS.F ht⟩) hS.2.2 dX11_count_63
    | 2, _, ej9 =>
      refine lv_tableIn (off := 63) (tgt := 64) hx hb dX11_count_1 (by rw [ej9]; decide) (by rw [ej9]; decide) (by rw [ej9]; rfl) (by decide) ?_
      have iej9 : p0.toInt = (2 : Int) := congrArg Int32.toInt ej9
      refine lv_aload_n hx hb dX11_count_64 rfl (lv_at hl 0 rfl) ?_
      refine va_get (D := (dC, dI)) (ci := 11) (v := .int 0) (C := RX11) (T := TX11) (N := 13) hx hb hts (fun _ h9 => List.mem_cons_of_mem _ (List.mem_append_left _ (List.mem_append_left _ (List.mem_append_left _ (List.mem_append_left _ (List.mem_append_left _ (List.mem_append_right _ h9))))))) hown hK hP 0 rfl rfl 6 (by decide) (hts (.fieldLink RX11 52 "SeatsRound" "tableCount" "I") (List.mem_of_getElem? (i := 5) rfl)) (fun _ h9 => h9) rfl dX11_count_65 ?_
      exact W.iret (v := 0) hx hb hr (fun t ht hW => ⟨⟨0, (), rfl, (by unfold sp_count; split <;> first | rfl | (exfalso; omega)), trivial⟩, hS.F ht⟩) hS.2.2 dX11_count_68
    | 3, _, ej9 =>
      refine lv_tableIn (off := 68) (tgt := 69) hx hb dX11_count_1 (by rw [ej9]; decide) (by rw [ej9]; decide) (by rw [ej9]; rfl) (by decide) ?_
      have iej9 : p0.toInt = (3 : Int) := congrArg Int32.toInt ej9
      refine lv_aload_n hx hb dX11_count_69 rfl (lv_at hl 0 rfl) ?_
      refine va_get (D := (dC, dI)) (ci := 11) (v := .ref a0) (C := RX11) (T := TX11) (N := 13) hx hb hts (fun _ h9 => List.mem_cons_of_mem _ (List.mem_append_left _ (List.mem_append_left _ (List.mem_append_left _ (List.mem_append_left _ (List.mem_append_left _ (List.mem_append_right _ h9))))))) hown hK hP 0 rfl rfl 0 (by decide) (hts (.fieldLink RX11 10 "SeatsRound" "tape" "LSeatsRound$Tape;") (List.mem_of_getElem? (i := 6) rfl)) (fun _ h9 => h9) rfl dX11_count_70 ?_
      change W _ _ _ _ _ _ _ _ _ _ _ _ _ _ _ (F0 m 73 ls [.ref a0])
      refine va_get (D := (dC, dI)) (ci := 9) (v := .int 0) (C := RX9) (T := TX9) (N := 2) hx hb hts (fun _ h9 => List.mem_cons_of_mem _ (List.mem_append_left _ (List.mem_append_left _ (List.mem_append_right _ h9)))) hown hK hP 3 rfl rfl 1 (by decide) (hts (.fieldLink RX11 102 "SeatsRound$Tape" "length" "I") (List.mem_of_getElem? (i := 7) rfl)) (fun _ h9 => h9) rfl dX11_count_73 ?_
      exact W.iret (v := 0) hx hb hr (fun t ht hW => ⟨⟨0, (), rfl, (by unfold sp_count; split <;> first | rfl | (exfalso; omega)), trivial⟩, hS.F ht⟩) hS.2.2 dX11_count_76
    | 4, _, ej9 =>
      refine lv_tableIn (off := 76) (tgt := 77) hx hb dX11_count_1 (by rw [ej9]; decide) (by rw [ej9]; decide) (by rw [ej9]; rfl) (by decide) ?_
      have iej9 : p0.toInt = (4 : Int) := congrArg Int32.toInt ej9
      refine lv_aload_n hx hb dX11_count_77 rfl (lv_at hl 0 rfl) ?_
      refine va_get (D := (dC, dI)) (ci := 11) (v := .ref a8) (C := RX11) (T := TX11) (N := 13) hx hb hts (fun _ h9 => List.mem_cons_of_mem _ (List.mem_append_left _ (List.mem_append_left _ (List.mem_append_left _ (List.mem_append_left _ (List.mem_append_left _ (List.mem_append_right _ h9))))))) hown hK hP 0 rfl rfl 8 (by decide) (hts (.fieldLink RX11 66 "SeatsRound" "parcels" "LSeatsRound$Parcels;") (List.mem_of_getElem? (i := 8) rfl)) (fun _ h9 => h9) rfl dX11_count_78 ?_
      have hPc := hP.sub (ws' := [(a8, .inr (6, [.ref e0, .ref e1, .ref e2, .ref e3, .ref e4, .ref e5, .ref e6, .ref e7, .int 0, .ref a2, .ref a1, .ref a4])), (a2, .inr (2, [.ref k0, .ref k1, .ref k2, .ref k3, .ref k4, .int 0]))]) [4, 2] rfl
      have hDc := hD.sub (ws' := [(a8, .inr (6, [.ref e0, .ref e1, .ref e2, .ref e3, .ref e4, .ref e5, .ref e6, .ref e7, .int 0, .ref a2, .ref a1, .ref a4])), (a2, .inr (2, [.ref k0, .ref k1, .ref k2, .ref k3, .ref k4, .int 0]))]) [4, 2] (by decide) rfl
      refine vz_callSi (va_runV (As := []) (rest := []) ⟨hx, hb, hml, hown, hts⟩ (c_PC_allCopies l dC dI cy a8 e0 e1 e2 e3 e4 e5 e6 e7 a2 a1 a4 k0 k1 k2 k3 k4 s.heap.size) (cwV 0 hts gX11_count_X6_allCopies rfl rfl rfl (by decide +kernel) ⟨Nat.le_of_ble_eq_true rfl, Nat.le_of_ble_eq_true rfl⟩) (wp_V hK hN hPc hDc (va_recv hK hPc (ci := 6) (q0 := 0) rfl rfl)) rfl rfl hl.1 rfl (lv_room (Nat.le_of_ble_eq_true rfl)) dX11_count_81 ⟨Nat.le_of_ble_eq_true rfl, Nat.le_of_ble_eq_true rfl⟩) (fun r_1 hw_1 => ?_)
      obtain rfl : r_1 = 0 := hw_1
      exact W.iret (v := 0) hx hb hr (fun t ht hW => ⟨⟨0, (), rfl, (by unfold sp_count; split <;> first | rfl | (exfalso; omega)), trivial⟩, hS.F ht⟩) hS.2.2 dX11_count_84
    | 5, _, ej9 =>
      refine lv_tableIn (off := 84) (tgt := 85) hx hb dX11_count_1 (by rw [ej9]; decide) (by rw [ej9]; decide) (by rw [ej9]; rfl) (by decide) ?_
      have iej9 : p0.toInt = (5 : Int) := congrArg Int32.toInt ej9
      refine lv_aload_n hx hb dX11_count_85 rfl (lv_at hl 0 rfl) ?_
      refine va_get (D := (dC, dI)) (ci := 11) (v := .ref a8) (C := RX11) (T := TX11) (N := 13) hx hb hts (fun _ h9 => List.mem_cons_of_mem _ (List.mem_append_left _ (List.mem_append_left _ (List.mem_append_left _ (List.mem_append_left _ (List.mem_append_left _ (List.mem_append_right _ h9))))))) hown hK hP 0 rfl rfl 8 (by decide) (hts (.fieldLink RX11 66 "SeatsRound" "parcels" "LSeatsRound$Parcels;") (List.mem_of_getElem? (i := 8) rfl)) (fun _ h9 => h9) rfl dX11_count_86 ?_
      have hPc := hP.sub (ws' := [(a8, .inr (6, [.ref e0, .ref e1, .ref e2, .ref e3, .ref e4, .ref e5, .ref e6, .ref e7, .int 0, .ref a2, .ref a1, .ref a4])), (a2, .inr (2, [.ref k0, .ref k1, .ref k2, .ref k3, .ref k4, .int 0]))]) [4, 2] rfl
      have hDc := hD.sub (ws' := [(a8, .inr (6, [.ref e0, .ref e1, .ref e2, .ref e3, .ref e4, .ref e5, .ref e6, .ref e7, .int 0, .ref a2, .ref a1, .ref a4])), (a2, .inr (2, [.ref k0, .ref k1, .ref k2, .ref k3, .ref k4, .int 0]))]) [4, 2] (by decide) rfl
      refine vz_callSi (va_runV (As := []) (rest := []) ⟨hx, hb, hml, hown, hts⟩ (c_PC_allKept l dC dI cy a8 e0 e1 e2 e3 e4 e5 e6 e7 a2 a1 a4 k0 k1 k2 k3 k4 s.heap.size) (cwV 0 hts gX11_count_X6_allKept rfl rfl rfl (by decide +kernel) ⟨Nat.le_of_ble_eq_true rfl, Nat.le_of_ble_eq_true rfl⟩) (wp_V hK hN hPc hDc (va_recv hK hPc (ci := 6) (q0 := 0) rfl rfl)) rfl rfl hl.1 rfl (lv_room (Nat.le_of_ble_eq_true rfl)) dX11_count_89 ⟨Nat.le_of_ble_eq_true rfl, Nat.le_of_ble_eq_true rfl⟩) (fun r_2 hw_2 => ?_)
      obtain rfl : r_2 = 0 := hw_2
      exact W.iret (v := 0) hx hb hr (fun t ht hW => ⟨⟨0, (), rfl, (by unfold sp_count; split <;> first | rfl | (exfalso; omega)), trivial⟩, hS.F ht⟩) hS.2.2 dX11_count_92
    | 6, _, ej9 =>
      refine lv_tableIn (off := 92) (tgt := 93) hx hb dX11_count_1 (by rw [ej9]; decide) (by rw [ej9]; decide) (by rw [ej9]; rfl) (by decide) ?_
      have iej9 : p0.toInt = (6 : Int) := congrArg Int32.toInt ej9
      refine lv_aload_n hx hb dX11_count_93 rfl (lv_at hl 0 rfl) ?_
      change W _ _ _ _ _ _ _ _ _ _ _ _ _ _ _ (F0 m 94 ls [.ref h0])
      refine va_get (D := (dC, dI)) (ci := 11) (v := .ref a8) (C := RX11) (T := TX11) (N := 13) hx hb hts (fun _ h9 => List.mem_cons_of_mem _ (List.mem_append_left _ (List.mem_append_left _ (List.mem_append_left _ (List.mem_append_left _ (List.mem_append_left _ (List.mem_append_right _ h9))))))) hown hK hP 0 rfl rfl 8 (by decide) (hts (.fieldLink RX11 66 "SeatsRound" "parcels" "LSeatsRound$Parcels;") (List.mem_of_getElem? (i := 8) rfl)) (fun _ h9 => h9) rfl dX11_count_94 ?_
      refine va_get (D := (dC, dI)) (ci := 6) (v := .int 0) (C := RX6) (T := TX6) (N := 12) hx hb hts (fun _ h9 => List.mem_cons_of_mem _ (List.mem_append_left _ (List.mem_append_right _ h9))) hown hK hP 4 rfl rfl 8 (by decide) (hts (.fieldLink RX11 417 "SeatsRound$Parcels" "writings" "I") (List.mem_of_getElem? (i := 9) rfl)) (fun _ h9 => h9) rfl dX11_count_97 ?_
      exact W.iret (v := 0) hx hb hr (fun t ht hW => ⟨⟨0, (), rfl, (by unfold sp_count; split <;> first | rfl | (exfalso; omega)), trivial⟩, hS.F ht⟩) hS.2.2 dX11_count_100
    | 7, _, ej9 =>
      refine lv_tableIn (off := 100) (tgt := 101) hx hb dX11_count_1 (by rw [ej9]; decide) (by rw [ej9]; decide) (by rw [ej9]; rfl) (by decide) ?_
      have iej9 : p0.toInt = (7 : Int) := congrArg Int32.toInt ej9
      refine lv_aload_n hx hb dX11_count_101 rfl (lv_at hl 0 rfl) ?_
      refine va_get (D := (dC, dI)) (ci := 11) (v := .ref a11) (C := RX11) (T := TX11) (N := 13) hx hb hts (fun _ h9 => List.mem_cons_of_mem _ (List.mem_append_left _ (List.mem_append_left _ (List.mem_append_left _ (List.mem_append_left _ (List.mem_append_left _ (List.mem_append_right _ h9))))))) hown hK hP 0 rfl rfl 11 (by decide) (hts (.fieldLink RX11 91 "SeatsRound" "acts" "LSeatsRound$Acts;") (List.mem_of_getElem? (i := 10) rfl)) (fun _ h9 => h9) rfl dX11_count_102 ?_
      refine va_get (D := (dC, dI)) (ci := 0) (v := .int 0) (C := RX0) (T := TX0) (N := 5) hx hb hts (fun _ h9 => List.mem_cons_of_mem _ (List.mem_append_right _ h9)) hown hK hP 5 rfl rfl 1 (by decide) (hts (.fieldLink RX11 344 "SeatsRound$Acts" "ran" "I") (List.mem_of_getElem? (i := 11) rfl)) (fun _ h9 => h9) rfl dX11_count_105 ?_
      exact W.iret (v := 0) hx hb hr (fun t ht hW => ⟨⟨0, (), rfl, (by unfold sp_count; split <;> first | rfl | (exfalso; omega)), trivial⟩, hS.F ht⟩) hS.2.2 dX11_count_108
    | j9 + 8, hj9, _ => exact absurd hj9 (by omega)
  · refine lv_tableOut (tgt := 109) hx hb dX11_count_1 hout (by decide) ?_
    refine lv_iconst (v := (-1)) hx hb dX11_count_109 (by decide) ?_
    exact W.iret (v := (-1)) hx hb hr (fun t ht hW => ⟨⟨(-1), (), rfl, (by unfold sp_count; split <;> first | rfl | (exfalso; omega)), trivial⟩, hS.F ht⟩) hS.2.2 dX11_count_110
set_option maxHeartbeats 4000000 in
set_option maxRecDepth 100000 in
theorem c_row_0 (l : Launch) (dC : Nat → ClassId) (dI : Nat → Nat → Nat) (cy : Nat → ClassId) (h0 : Nat) (a0 : Nat) (a1 : Nat) (a2 : Nat) (a3 : Nat) (a4 : Nat) (a5 : Nat) (a7 : Nat) (a8 : Nat) (a9 : Nat) (a10 : Nat) (a11 : Nat) (a12 : Nat) (r0 : Nat) (r1 : Nat) (r2 : Nat) (r3 : Nat) (g : Nat → Nat) (p0 : Int32) (p1 : Int32) (sz : Nat)  : Met l yX11_row wsX11_row ({ frames := 3, cells := 0, slots := 0, locals := 70 }) (va_Pc [.ref h0, .int 0, .int p0, .int p1] (wPre (dC, dI) cy [(h0, .inr (11, [.ref a0, .ref a1, .ref a2, .ref a3, .ref a4, .ref a5, .int 0, .ref a7, .ref a8, .ref a9, .ref a10, .ref a11, .ref a12])), (a12, .inr (7, [.ref r0, .ref r1, .ref r2, .ref r3])), (r0, .inl (cy 0, 6, .inl (fun _ => (-1)))), (r1, .inl (cy 0, 6, .inl (fun _ => (-1)))), (r2, .inl (cy 0, 6, .inl (fun _ => 0))), (r3, .inl (cy 7, 6, .inr (.inr (.inr (.inr (fun i => if i < 6 then some (g i) else none)))))), ((g 0), .inl (cy 4, 60, .inr (.inl (fun _ => 0))))] sz)) (va_Qi (fun (r : Int32) (u : Unit) => r = sp_row 0 p0 p1) (fun (u : Unit) t => True) (va_A [(h0, .inr (11, [.ref a0, .ref a1, .ref a2, .ref a3, .ref a4, .ref a5, .int 0, .ref a7, .ref a8, .ref a9, .ref a10, .ref a11, .ref a12])), (a12, .inr (7, [.ref r0, .ref r1, .ref r2, .ref r3])), (r0, .inl (cy 0, 6, .inl (fun _ => (-1)))), (r1, .inl (cy 0, 6, .inl (fun _ => (-1)))), (r2, .inl (cy 0, 6, .inl (fun _ => 0))), (r3, .inl (cy 7, 6, .inr (.inr (.inr (.inr (fun i => if i < 6 then some (g i) else none)))))), ((g 0), .inl (cy 4, 60, .inr (.inl (fun _ => 0))))] sz)) 0 0 (va_A [(h0, .inr (11, [.ref a0, .ref a1, .ref a2, .ref a3, .ref a4, .ref a5, .int 0, .ref a7, .ref a8, .ref a9, .ref a10, .ref a11, .ref a12])), (a12, .inr (7, [.ref r0, .ref r1, .ref r2, .ref r3])), (r0, .inl (cy 0, 6, .inl (fun _ => (-1)))), (r1, .inl (cy 0, 6, .inl (fun _ => (-1)))), (r2, .inl (cy 0, 6, .inl (fun _ => 0))), (r3, .inl (cy 7, 6, .inr (.inr (.inr (.inr (fun i => if i < 6 then some (g i) else none)))))), ((g 0), .inl (cy 4, 60, .inr (.inl (fun _ => 0))))] sz) := by
  refine Met.ofW (cc := cX11_row) (maxL := 4) (ret := (some .int)) (by decide) rfl ?_
  intro p e s m args below meth c s₁ B hml hv
  obtain ⟨rfl, hsz, hP, hK, hD0, hN⟩ := hv
  have hx := B.exec
  have hb := B.bytes
  have hr := B.returns
  have hts := atoms_spec (ws := wsX11_row) B.pre
  have hown : s.vm.findClass RX11 = some m.cls := findClass_of_methodNamed B.named
  have hlocks := B.notSynchronized
  subst hsz
  have hD := hD0.self (sz := s.heap.size)
  generalize hAe : va_A [(h0, .inr (11, [.ref a0, .ref a1, .ref a2, .ref a3, .ref a4, .ref a5, .int 0, .ref a7, .ref a8, .ref a9, .ref a10, .ref a11, .ref a12])), (a12, .inr (7, [.ref r0, .ref r1, .ref r2, .ref r3])), (r0, .inl (cy 0, 6, .inl (fun _ => (-1)))), (r1, .inl (cy 0, 6, .inl (fun _ => (-1)))), (r2, .inl (cy 0, 6, .inl (fun _ => 0))), (r3, .inl (cy 7, 6, .inr (.inr (.inr (.inr (fun i => if i < 6 then some (g i) else none)))))), ((g 0), .inl (cy 4, 60, .inr (.inl (fun _ => 0))))] s.heap.size = A at hD ⊢
  have hA : ∀ q : Nat, s.heap.size ≤ q → A q := fun q h => by rw [← hAe]; exact Or.inr h
  have hS : va_S A s.heap s.heap [] := va_S.rf
  have hl := lv_entry ([.ref h0, .int 0, .int p0, .int p1]) (n := 4) (Nat.le_of_ble_eq_true rfl)
  rw [lg_entry_eq]
  generalize (lg_sl ([.ref h0, .int 0, .int p0, .int p1]) ++ List.replicate (4 - (lg_sl ([.ref h0, .int 0, .int p0, .int p1])).length) Slot.unset).toArray = ls at hl ⊢
  have hl : lv_has ls 4 [(0, .ref h0), (1, .int 0), (2, .int p0), (3, .int p1)] := hl
  refine lv_iload_n hx hb dX11_row_0 rfl (lv_at hl 1 rfl) ?_
  have hPc := hP.sub (ws' := []) [] rfl
  have hDc := hD.sub (ws' := []) [] (by decide) rfl
  refine vz_callSi (va_runS (As := [.int 0]) (rest := []) ⟨hx, hb, hml, hown, hts⟩ (c_isShelf l dC dI cy 0 s.heap.size) (va_cwS 1 hts gX11_row_X11_isShelf rfl rfl rfl (by decide +kernel) ⟨Nat.le_of_ble_eq_true rfl, Nat.le_of_ble_eq_true rfl⟩) (wp_S hK hN hPc hDc) rfl rfl hl.1 rfl (lv_room (Nat.le_of_ble_eq_true rfl)) dX11_row_1 ⟨Nat.le_of_ble_eq_true rfl, Nat.le_of_ble_eq_true rfl⟩) (fun r_1 hw_1 => ?_)
  rcases hw_1 with ⟨c_1, hw_1⟩ | ⟨c_1, hw_1⟩ <;> subst hw_1
  · have ic_1 : 0 ≤ (0 : Int) ∧ (0 : Int) ≤ 5 := c_1
    refine lv_if_eq (tgt := 22) hx hb dX11_row_4 (by decide) (fun c_2 => absurd c_2 (by decide)) (fun _ => ?_)
    refine lv_iload_n hx hb dX11_row_7 rfl (lv_at hl 2 rfl) ?_
    refine lv_if_lt (tgt := 22) hx hb dX11_row_8 (by decide) (fun c_3 => ?_) (fun c_3 => ?_)
    · have ic_3 : p0.toInt < (0 : Int) := Int32.lt_iff_toInt_lt.mp c_3
      refine lv_iconst (v := (-1)) hx hb dX11_row_22 (by decide) ?_
      exact W.iret (v := (-1)) hx hb hr (fun t ht hW => ⟨⟨(-1), (), rfl, (by have e9 : (0 : Int32).toInt = 0 := rfl; unfold sp_row; split <;> (try split) <;> first | rfl | (exfalso; omega)), trivial⟩, hS.F ht⟩) hS.2.2 dX11_row_23
    · have ic_3 : ¬ p0.toInt < (0 : Int) := fun h9 => c_3 (Int32.lt_iff_toInt_lt.mpr h9)
      refine lv_iload_n hx hb dX11_row_11 rfl (lv_at hl 2 rfl) ?_
      refine lv_iconst (v := 4) hx hb dX11_row_12 (by decide) ?_
      refine lv_icmp_gt (tgt := 22) hx hb dX11_row_13 (by decide) (fun c_4 => ?_) (fun c_4 => ?_)
      · have ic_4 : (4 : Int) < p0.toInt := Int32.lt_iff_toInt_lt.mp c_4
        refine lv_iconst (v := (-1)) hx hb dX11_row_22 (by decide) ?_
        change W _ _ _ _ _ _ _ _ _ _ _ _ _ _ _ (F0 m 23 ls [.int (-1)])
        exact W.iret (v := (-1)) hx hb hr (fun t ht hW => ⟨⟨(-1), (), rfl, (by have e9 : (0 : Int32).toInt = 0 := rfl; unfold sp_row; split <;> (try split) <;> first | rfl | (exfalso; omega)), trivial⟩, hS.F ht⟩) hS.2.2 dX11_row_23
      · have ic_4 : ¬ (4 : Int) < p0.toInt := fun h9 => c_4 (Int32.lt_iff_toInt_lt.mpr h9)
        refine lv_iload_n hx hb dX11_row_16 rfl (lv_at hl 3 rfl) ?_
        refine lv_bipush (v := 60) hx hb dX11_row_17 (by decide) ?_
        refine lv_icmp_le (tgt := 24) hx hb dX11_row_19 (by decide) (fun c_5 => ?_) (fun c_5 => ?_)
        · have ic_5 : p1.toInt ≤ (60 : Int) := Int32.le_iff_toInt_le.mp c_5
          refine lv_iload_n hx hb dX11_row_24 rfl (lv_at hl 3 rfl) ?_
          refine lv_if_ge (tgt := 31) hx hb dX11_row_25 (by decide) (fun c_6 => ?_) (fun c_6 => ?_)
          · have ic_6 : (0 : Int) ≤ p1.toInt := Int32.le_iff_toInt_le.mp c_6
            refine lv_aload_n hx hb dX11_row_31 rfl (lv_at hl 0 rfl) ?_
            refine va_get (D := (dC, dI)) (ci := 11) (v := .ref a12) (C := RX11) (T := TX11) (N := 13) hx hb hts (fun _ h9 => List.mem_cons_of_mem _ (List.mem_append_left _ (List.mem_append_right _ h9))) hown hK hP 0 rfl rfl 12 (by decide) (hts (.fieldLink RX11 98 "SeatsRound" "rows" "LSeatsRound$Rows;") (List.mem_of_getElem? (i := 1) rfl)) (fun _ h9 => h9) rfl dX11_row_32 ?_
            refine lv_iload_n hx hb dX11_row_35 rfl (lv_at hl 1 rfl) ?_
            refine lv_iload_n hx hb dX11_row_36 rfl (lv_at hl 2 rfl) ?_
            refine lv_iload_n hx hb dX11_row_37 rfl (lv_at hl 3 rfl) ?_
            change W _ _ _ _ _ _ _ _ _ _ _ _ _ _ _ (F0 m 38 ls [.int p1, .int p0, .int 0, .ref a12])
            have hPc := hP.sub (ws' := [(a12, .inr (7, [.ref r0, .ref r1, .ref r2, .ref r3])), (r0, .inl (cy 0, 6, .inl (fun _ => (-1)))), (r1, .inl (cy 0, 6, .inl (fun _ => (-1)))), (r2, .inl (cy 0, 6, .inl (fun _ => 0))), (r3, .inl (cy 7, 6, .inr (.inr (.inr (.inr (fun i => if i < 6 then some (g i) else none)))))), ((g 0), .inl (cy 4, 60, .inr (.inl (fun _ => 0))))]) [1, 2, 3, 4, 5, 6] rfl
            have hDc := hD.sub (ws' := [(a12, .inr (7, [.ref r0, .ref r1, .ref r2, .ref r3])), (r0, .inl (cy 0, 6, .inl (fun _ => (-1)))), (r1, .inl (cy 0, 6, .inl (fun _ => (-1)))), (r2, .inl (cy 0, 6, .inl (fun _ => 0))), (r3, .inl (cy 7, 6, .inr (.inr (.inr (.inr (fun i => if i < 6 then some (g i) else none)))))), ((g 0), .inl (cy 4, 60, .inr (.inl (fun _ => 0))))]) [1, 2, 3, 4, 5, 6] (by decide) rfl
            have hFc := va_free (wc := [(a12, .inr (7, [.ref r0, .ref r1, .ref r2, .ref r3])), (r0, .inl (cy 0, 6, .inl (fun _ => (-1)))), (r1, .inl (cy 0, 6, .inl (fun _ => (-1)))), (r2, .inl (cy 0, 6, .inl (fun _ => 0))), (r3, .inl (cy 7, 6, .inr (.inr (.inr (.inr (fun i => if i < 6 then some (g i) else none)))))), ((g 0), .inl (cy 4, 60, .inr (.inl (fun _ => 0))))]) hD hS hA [1, 2, 3, 4, 5, 6] rfl
            refine va_callv (va_runV (As := [.int 0, .int p0, .int p1]) (rest := []) ⟨hx, hb, hml, hown, hts⟩ (c_RW_holdRow_0 l dC dI cy a12 r0 r1 r2 r3 g p0 p1 s.heap.size) (cwV 3 hts gX11_row_X7_holdRow rfl rfl rfl (by decide +kernel) ⟨Nat.le_of_ble_eq_true rfl, Nat.le_of_ble_eq_true rfl⟩) (wp_V hK hN hPc hDc (va_recv hK hPc (ci := 7) (q0 := 0) rfl rfl)) rfl rfl hl.1 rfl (lv_room (Nat.le_of_ble_eq_true rfl)) dX11_row_38 ⟨Nat.le_of_ble_eq_true rfl, Nat.le_of_ble_eq_true rfl⟩) hS (fun q _ h => hFc q h) hFc (fun u_7 t H1 locs ht hvm hw_7 hB hz1 hk1 hS => ?_)
            have hP1 : va_P (dC, dI) vwCl [] H1 := fun k q h => by simp at h
            have hD1 : va_D (va_A [(a12, .inr (7, [.ref r0, .ref r1, .ref r2, .ref r3])), (r0, .inl (cy 0, 6, .inl (fun _ => (-1)))), (r1, .inl (cy 0, 6, .inl (fun _ => (-1)))), (r2, .inl (cy 0, 6, .inl (fun _ => 0))), (r3, .inl (cy 7, 6, .inr (.inr (.inr (.inr (fun i => if i < 6 then some (g i) else none)))))), ((g 0), .inl (cy 4, 60, .inr (.inl (fun _ => 0))))] s.heap.size) [] := ⟨fun i j p q h => by simp at h, fun k q h => by simp at h⟩
            obtain ⟨hP, hD⟩ := va_join (wr := [(h0, .inr (11, [.ref a0, .ref a1, .ref a2, .ref a3, .ref a4, .ref a5, .int 0, .ref a7, .ref a8, .ref a9, .ref a10, .ref a11, .ref a12]))]) (w1 := []) hP hD [1, 2, 3, 4, 5, 6] [0] rfl rfl (by decide) (by decide) hk1 hFc hP1 hD1
            generalize H1 = H at hP hS ⊢
            have hP : va_P (dC, dI) vwCl [(h0, .inr (11, [.ref a0, .ref a1, .ref a2, .ref a3, .ref a4, .ref a5, .int 0, .ref a7, .ref a8, .ref a9, .ref a10, .ref a11, .ref a12]))] H := hP
            have hD : va_D A [(h0, .inr (11, [.ref a0, .ref a1, .ref a2, .ref a3, .ref a4, .ref a5, .int 0, .ref a7, .ref a8, .ref a9, .ref a10, .ref a11, .ref a12]))] := hD
            refine lv_iconst (v := 1) hx hb dX11_row_41 (by decide) ?_
            exact W.iret (v := 1) hx hb hr (fun t ht hW => ⟨⟨1, (), rfl, (by have e9 : (0 : Int32).toInt = 0 := rfl; unfold sp_row; split <;> (try split) <;> first | rfl | (exfalso; omega)), trivial⟩, hS.F ht⟩) hS.2.2 dX11_row_42
          · have ic_6 : ¬ (0 : Int) ≤ p1.toInt := fun h9 => c_6 (Int32.le_iff_toInt_le.mpr h9)
            refine lv_bipush (v := (-14)) hx hb dX11_row_28 (by decide) ?_
            exact W.iret (v := (-14)) hx hb hr (fun t ht hW => ⟨⟨(-14), (), rfl, (by have e9 : (0 : Int32).toInt = 0 := rfl; unfold sp_row; split <;> (try split) <;> first | rfl | (exfalso; omega)), trivial⟩, hS.F ht⟩) hS.2.2 dX11_row_30
        · have ic_5 : ¬ p1.toInt ≤ (60 : Int) := fun h9 => c_5 (Int32.le_iff_toInt_le.mpr h9)
          refine lv_iconst (v := (-1)) hx hb dX11_row_22 (by decide) ?_
          exact W.iret (v := (-1)) hx hb hr (fun t ht hW => ⟨⟨(-1), (), rfl, (by have e9 : (0 : Int32).toInt = 0 := rfl; unfold sp_row; split <;> (try split) <;> first | rfl | (exfalso; omega)), trivial⟩, hS.F ht⟩) hS.2.2 dX11_row_23
  · have ic_1 : ¬ (0 ≤ (0 : Int) ∧ (0 : Int) ≤ 5) := c_1
    exact absurd True.intro (by omega)
set_option maxHeartbeats 4000000 in
set_option maxRecDepth 100000 in
theorem c_row_1 (l : Launch) (dC : Nat → ClassId) (dI : Nat → Nat → Nat) (cy : Nat → ClassId) (h0 : Nat) (a0 : Nat) (a1 : Nat) (a2 : Nat) (a3 : Nat) (a4 : Nat) (a5 : Nat) (a7 : Nat) (a8 : Nat) (a9 : Nat) (a10 : Nat) (a11 : Nat) (a12 : Nat) (r0 : Nat) (r1 : Nat) (r2 : Nat) (r3 : Nat) (g : Nat → Nat) (p0 : Int32) (p1 : Int32) (sz : Nat)  : Met l yX11_row wsX11_row ({ frames := 3, cells := 0, slots := 0, locals := 70 }) (va_Pc [.ref h0, .int 1, .int p0, .int p1] (wPre (dC, dI) cy [(h0, .inr (11, [.ref a0, .ref a1, .ref a2, .ref a3, .ref a4, .ref a5, .int 0, .ref a7, .ref a8, .ref a9, .ref a10, .ref a11, .ref a12])), (a12, .inr (7, [.ref r0, .ref r1, .ref r2, .ref r3])), (r0, .inl (cy 0, 6, .inl (fun _ => (-1)))), (r1, .inl (cy 0, 6, .inl (fun _ => (-1)))), (r2, .inl (cy 0, 6, .inl (fun _ => 0))), (r3, .inl (cy 7, 6, .inr (.inr (.inr (.inr (fun i => if i < 6 then some (g i) else none)))))), ((g 1), .inl (cy 4, 60, .inr (.inl (fun _ => 0))))] sz)) (va_Qi (fun (r : Int32) (u : Unit) => r = sp_row 1 p0 p1) (fun (u : Unit) t => True) (va_A [(h0, .inr (11, [.ref a0, .ref a1, .ref a2, .ref a3, .ref a4, .ref a5, .int 0, .ref a7, .ref a8, .ref a9, .ref a10, .ref a11, .ref a12])), (a12, .inr (7, [.ref r0, .ref r1, .ref r2, .ref r3])), (r0, .inl (cy 0, 6, .inl (fun _ => (-1)))), (r1, .inl (cy 0, 6, .inl (fun _ => (-1)))), (r2, .inl (cy 0, 6, .inl (fun _ => 0))), (r3, .inl (cy 7, 6, .inr (.inr (.inr (.inr (fun i => if i < 6 then some (g i) else none)))))), ((g 1), .inl (cy 4, 60, .inr (.inl (fun _ => 0))))] sz)) 0 0 (va_A [(h0, .inr (11, [.ref a0, .ref a1, .ref a2, .ref a3, .ref a4, .ref a5, .int 0, .ref a7, .ref a8, .ref a9, .ref a10, .ref a11, .ref a12])), (a12, .inr (7, [.ref r0, .ref r1, .ref r2, .ref r3])), (r0, .inl (cy 0, 6, .inl (fun _ => (-1)))), (r1, .inl (cy 0, 6, .inl (fun _ => (-1)))), (r2, .inl (cy 0, 6, .inl (fun _ => 0))), (r3, .inl (cy 7, 6, .inr (.inr (.inr (.inr (fun i => if i < 6 then some (g i) else none)))))), ((g 1), .inl (cy 4, 60, .inr (.inl (fun _ => 0))))] sz) := by
  refine Met.ofW (cc := cX11_row) (maxL := 4) (ret := (some .int)) (by decide) rfl ?_
  intro p e s m args below meth c s₁ B hml hv
  obtain ⟨rfl, hsz, hP, hK, hD0, hN⟩ := hv
  have hx := B.exec
  have hb := B.bytes
  have hr := B.returns
  have hts := atoms_spec (ws := wsX11_row) B.pre
  have hown : s.vm.findClass RX11 = some m.cls := findClass_of_methodNamed B.named
  have hlocks := B.notSynchronized
  subst hsz
  have hD := hD0.self (sz := s.heap.size)
  generalize hAe : va_A [(h0, .inr (11, [.ref a0, .ref a1, .ref a2, .ref a3, .ref a4, .ref a5, .int 0, .ref a7, .ref a8, .ref a9, .ref a10, .ref a11, .ref a12])), (a12, .inr (7, [.ref r0, .ref r1, .ref r2, .ref r3])), (r0, .inl (cy 0, 6, .inl (fun _ => (-1)))), (r1, .inl (cy 0, 6, .inl (fun _ => (-1)))), (r2, .inl (cy 0, 6, .inl (fun _ => 0))), (r3, .inl (cy 7, 6, .inr (.inr (.inr (.inr (fun i => if i < 6 then some (g i) else none)))))), ((g 1), .inl (cy 4, 60, .inr (.inl (fun _ => 0))))] s.heap.size = A at hD ⊢
  have hA : ∀ q : Nat, s.heap.size ≤ q → A q := fun q h => by rw [← hAe]; exact Or.inr h
  have hS : va_S A s.heap s.heap [] := va_S.rf
  have hl := lv_entry ([.ref h0, .int 1, .int p0, .int p1]) (n := 4) (Nat.le_of_ble_eq_true rfl)
  rw [lg_entry_eq]
  generalize (lg_sl ([.ref h0, .int 1, .int p0, .int p1]) ++ List.replicate (4 - (lg_sl ([.ref h0, .int 1, .int p0, .int p1])).length) Slot.unset).toArray = ls at hl ⊢
  have hl : lv_has ls 4 [(0, .ref h0), (1, .int 1), (2, .int p0), (3, .int p1)] := hl
  refine lv_iload_n hx hb dX11_row_0 rfl (lv_at hl 1 rfl) ?_
  change W _ _ _ _ _ _ _ _ _ _ _ _ _ _ _ (F0 m 1 ls [.int 1])
  have hPc := hP.sub (ws' := []) [] rfl
  have hDc := hD.sub (ws' := []) [] (by decide) rfl
  refine vz_callSi (va_runS (As := [.int 1]) (rest := []) ⟨hx, hb, hml, hown, hts⟩ (c_isShelf l dC dI cy 1 s.heap.size) (va_cwS 1 hts gX11_row_X11_isShelf rfl rfl rfl (by decide +kernel) ⟨Nat.le_of_ble_eq_true rfl, Nat.le_of_ble_eq_true rfl⟩) (wp_S hK hN hPc hDc) rfl rfl hl.1 rfl (lv_room (Nat.le_of_ble_eq_true rfl)) dX11_row_1 ⟨Nat.le_of_ble_eq_true rfl, Nat.le_of_ble_eq_true rfl⟩) (fun r_1 hw_1 => ?_)
  rcases hw_1 with ⟨c_1, hw_1⟩ | ⟨c_1, hw_1⟩ <;> subst hw_1
  · have ic_1 : 0 ≤ (1 : Int) ∧ (1 : Int) ≤ 5 := c_1
    refine lv_if_eq (tgt := 22) hx hb dX11_row_4 (by decide) (fun c_2 => absurd c_2 (by decide)) (fun _ => ?_)
    refine lv_iload_n hx hb dX11_row_7 rfl (lv_at hl 2 rfl) ?_
    refine lv_if_lt (tgt := 22) hx hb dX11_row_8 (by decide) (fun c_3 => ?_) (fun c_3 => ?_)
    · have ic_3 : p0.toInt < (0 : Int) := Int32.lt_iff_toInt_lt.mp c_3
      refine lv_iconst (v := (-1)) hx hb dX11_row_22 (by decide) ?_
      exact W.iret (v := (-1)) hx hb hr (fun t ht hW => ⟨⟨(-1), (), rfl, (by have e9 : (1 : Int32).toInt = 1 := rfl; unfold sp_row; split <;> (try split) <;> first | rfl | (exfalso; omega)), trivial⟩, hS.F ht⟩) hS.2.2 dX11_row_23
    · have ic_3 : ¬ p0.toInt < (0 : Int) := fun h9 => c_3 (Int32.lt_iff_toInt_lt.mpr h9)
      refine lv_iload_n hx hb dX11_row_11 rfl (lv_at hl 2 rfl) ?_
      refine lv_iconst (v := 4) hx hb dX11_row_12 (by decide) ?_
      refine lv_icmp_gt (tgt := 22) hx hb dX11_row_13 (by decide) (fun c_4 => ?_) (fun c_4 => ?_)
      · have ic_4 : (4 : Int) < p0.toInt := Int32.lt_iff_toInt_lt.mp c_4
        refine lv_iconst (v := (-1)) hx hb dX11_row_22 (by decide) ?_
        exact W.iret (v := (-1)) hx hb hr (fun t ht hW => ⟨⟨(-1), (), rfl, (by have e9 : (1 : Int32).toInt = 1 := rfl; unfold sp_row; split <;> (try split) <;> first | rfl | (exfalso; omega)), trivial⟩, hS.F ht⟩) hS.2.2 dX11_row_23
      · have ic_4 : ¬ (4 : Int) < p0.toInt := fun h9 => c_4 (Int32.lt_iff_toInt_lt.mpr h9)
        refine lv_iload_n hx hb dX11_row_16 rfl (lv_at hl 3 rfl) ?_
        refine lv_bipush (v := 60) hx hb dX11_row_17 (by decide) ?_
        change W _ _ _ _ _ _ _ _ _ _ _ _ _ _ _ (F0 m 19 ls [.int 60, .int p1])
        refine lv_icmp_le (tgt := 24) hx hb dX11_row_19 (by decide) (fun c_5 => ?_) (fun c_5 => ?_)
        · have ic_5 : p1.toInt ≤ (60 : Int) := Int32.le_iff_toInt_le.mp c_5
          refine lv_iload_n hx hb dX11_row_24 rfl (lv_at hl 3 rfl) ?_
          refine lv_if_ge (tgt := 31) hx hb dX11_row_25 (by decide) (fun c_6 => ?_) (fun c_6 => ?_)
          · have ic_6 : (0 : Int) ≤ p1.toInt := Int32.le_iff_toInt_le.mp c_6
            refine lv_aload_n hx hb dX11_row_31 rfl (lv_at hl 0 rfl) ?_
            refine va_get (D := (dC, dI)) (ci := 11) (v := .ref a12) (C := RX11) (T := TX11) (N := 13) hx hb hts (fun _ h9 => List.mem_cons_of_mem _ (List.mem_append_left _ (List.mem_append_right _ h9))) hown hK hP 0 rfl rfl 12 (by decide) (hts (.fieldLink RX11 98 "SeatsRound" "rows" "LSeatsRound$Rows;") (List.mem_of_getElem? (i := 1) rfl)) (fun _ h9 => h9) rfl dX11_row_32 ?_
            refine lv_iload_n hx hb dX11_row_35 rfl (lv_at hl 1 rfl) ?_
            refine lv_iload_n hx hb dX11_row_36 rfl (lv_at hl 2 rfl) ?_
            refine lv_iload_n hx hb dX11_row_37 rfl (lv_at hl 3 rfl) ?_
            have hPc := hP.sub (ws' := [(a12, .inr (7, [.ref r0, .ref r1, .ref r2, .ref r3])), (r0, .inl (cy 0, 6, .inl (fun _ => (-1)))), (r1, .inl (cy 0, 6, .inl (fun _ => (-1)))), (r2, .inl (cy 0, 6, .inl (fun _ => 0))), (r3, .inl (cy 7, 6, .inr (.inr (.inr (.inr (fun i => if i < 6 then some (g i) else none)))))), ((g 1), .inl (cy 4, 60, .inr (.inl (fun _ => 0))))]) [1, 2, 3, 4, 5, 6] rfl
            have hDc := hD.sub (ws' := [(a12, .inr (7, [.ref r0, .ref r1, .ref r2, .ref r3])), (r0, .inl (cy 0, 6, .inl (fun _ => (-1)))), (r1, .inl (cy 0, 6, .inl (fun _ => (-1)))), (r2, .inl (cy 0, 6, .inl (fun _ => 0))), (r3, .inl (cy 7, 6, .inr (.inr (.inr (.inr (fun i => if i < 6 then some (g i) else none)))))), ((g 1), .inl (cy 4, 60, .inr (.inl (fun _ => 0))))]) [1, 2, 3, 4, 5, 6] (by decide) rfl
            have hFc := va_free (wc := [(a12, .inr (7, [.ref r0, .ref r1, .ref r2, .ref r3])), (r0, .inl (cy 0, 6, .inl (fun _ => (-1)))), (r1, .inl (cy 0, 6, .inl (fun _ => (-1)))), (r2, .inl (cy 0, 6, .inl (fun _ => 0))), (r3, .inl (cy 7, 6, .inr (.inr (.inr (.inr (fun i => if i < 6 then some (g i) else none)))))), ((g 1), .inl (cy 4, 60, .inr (.inl (fun _ => 0))))]) hD hS hA [1, 2, 3, 4, 5, 6] rfl
            refine va_callv (va_runV (As := [.int 1, .int p0, .int p1]) (rest := []) ⟨hx, hb, hml, hown, hts⟩ (c_RW_holdRow_1 l dC dI cy a12 r0 r1 r2 r3 g p0 p1 s.heap.size) (cwV 3 hts gX11_row_X7_holdRow rfl rfl rfl (by decide +kernel) ⟨Nat.le_of_ble_eq_true rfl, Nat.le_of_ble_eq_true rfl⟩) (wp_V hK hN hPc hDc (va_recv hK hPc (ci := 7) (q0 := 0) rfl rfl)) rfl rfl hl.1 rfl (lv_room (Nat.le_of_ble_eq_true rfl)) dX11_row_38 ⟨Nat.le_of_ble_eq_true rfl, Nat.le_of_ble_eq_true rfl⟩) hS (fun q _ h => hFc q h) hFc (fun u_7 t H1 locs ht hvm hw_7 hB hz1 hk1 hS => ?_)
            have hP1 : va_P (dC, dI) vwCl [] H1 := fun k q h => by simp at h
            have hD1 : va_D (va_A [(a12, .inr (7, [.ref r0, .ref r1, .ref r2, .ref r3])), (r0, .inl (cy 0, 6, .inl (fun _ => (-1)))), (r1, .inl (cy 0, 6, .inl (fun _ => (-1)))), (r2, .inl (cy 0, 6, .inl (fun _ => 0))), (r3, .inl (cy 7, 6, .inr (.inr (.inr (.inr (fun i => if i < 6 then some (g i) else none)))))), ((g 1), .inl (cy 4, 60, .inr (.inl (fun _ => 0))))] s.heap.size) [] := ⟨fun i j p q h => by simp at h, fun k q h => by simp at h⟩
            obtain ⟨hP, hD⟩ := va_join (wr := [(h0, .inr (11, [.ref a0, .ref a1, .ref a2, .ref a3, .ref a4, .ref a5, .int 0, .ref a7, .ref a8, .ref a9, .ref a10, .ref a11, .ref a12]))]) (w1 := []) hP hD [1, 2, 3, 4, 5, 6] [0] rfl rfl (by decide) (by decide) hk1 hFc hP1 hD1
            generalize H1 = H at hP hS ⊢
            have hP : va_P (dC, dI) vwCl [(h0, .inr (11, [.ref a0, .ref a1, .ref a2, .ref a3, .ref a4, .ref a5, .int 0, .ref a7, .ref a8, .ref a9, .ref a10, .ref a11, .ref a12]))] H := hP
            have hD : va_D A [(h0, .inr (11, [.ref a0, .ref a1, .ref a2, .ref a3, .ref a4, .ref a5, .int 0, .ref a7, .ref a8, .ref a9, .ref a10, .ref a11, .ref a12]))] := hD
            refine lv_iconst (v := 1) hx hb dX11_row_41 (by decide) ?_
            change W _ _ _ _ _ _ _ _ _ _ _ _ _ _ _ (F0 m 42 ls [.int 1])
            exact W.iret (v := 1) hx hb hr (fun t ht hW => ⟨⟨1, (), rfl, (by have e9 : (1 : Int32).toInt = 1 := rfl; unfold sp_row; split <;> (try split) <;> first | rfl | (exfalso; omega)), trivial⟩, hS.F ht⟩) hS.2.2 dX11_row_42
          · have ic_6 : ¬ (0 : Int) ≤ p1.toInt := fun h9 => c_6 (Int32.le_iff_toInt_le.mpr h9)
            refine lv_bipush (v := (-14)) hx hb dX11_row_28 (by decide) ?_
            exact W.iret (v := (-14)) hx hb hr (fun t ht hW => ⟨⟨(-14), (), rfl, (by have e9 : (1 : Int32).toInt = 1 := rfl; unfold sp_row; split <;> (try split) <;> first | rfl | (exfalso; omega)), trivial⟩, hS.F ht⟩) hS.2.2 dX11_row_30
        · have ic_5 : ¬ p1.toInt ≤ (60 : Int) := fun h9 => c_5 (Int32.le_iff_toInt_le.mpr h9)
          refine lv_iconst (v := (-1)) hx hb dX11_row_22 (by decide) ?_
          exact W.iret (v := (-1)) hx hb hr (fun t ht hW => ⟨⟨(-1), (), rfl, (by have e9 : (1 : Int32).toInt = 1 := rfl; unfold sp_row; split <;> (try split) <;> first | rfl | (exfalso; omega)), trivial⟩, hS.F ht⟩) hS.2.2 dX11_row_23
  · have ic_1 : ¬ (0 ≤ (1 : Int) ∧ (1 : Int) ≤ 5) := c_1
    exact absurd True.intro (by omega)
set_option maxHeartbeats 4000000 in
set_option maxRecDepth 100000 in
theorem c_row_2 (l : Launch) (dC : Nat → ClassId) (dI : Nat → Nat → Nat) (cy : Nat → ClassId) (h0 : Nat) (a0 : Nat) (a1 : Nat) (a2 : Nat) (a3 : Nat) (a4 : Nat) (a5 : Nat) (a7 : Nat) (a8 : Nat) (a9 : Nat) (a10 : Nat) (a11 : Nat) (a12 : Nat) (r0 : Nat) (r1 : Nat) (r2 : Nat) (r3 : Nat) (g : Nat → Nat) (p0 : Int32) (p1 : Int32) (sz : Nat)  : Met l yX11_row wsX11_row ({ frames := 3, cells := 0, slots := 0, locals := 70 }) (va_Pc [.ref h0, .int 2, .int p0, .int p1] (wPre (dC, dI) cy [(h0, .inr (11, [.ref a0, .ref a1, .ref a2, .ref a3, .ref a4, .ref a5, .int 0, .ref a7, .ref a8, .ref a9, .ref a10, .ref a11, .ref a12])), (a12, .inr (7, [.ref r0, .ref r1, .ref r2, .ref r3])), (r0, .inl (cy 0, 6, .inl (fun _ => (-1)))), (r1, .inl (cy 0, 6, .inl (fun _ => (-1)))), (r2, .inl (cy 0, 6, .inl (fun _ => 0))), (r3, .inl (cy 7, 6, .inr (.inr (.inr (.inr (fun i => if i < 6 then some (g i) else none)))))), ((g 2), .inl (cy 4, 60, .inr (.inl (fun _ => 0))))] sz)) (va_Qi (fun (r : Int32) (u : Unit) => r = sp_row 2 p0 p1) (fun (u : Unit) t => True) (va_A [(h0, .inr (11, [.ref a0, .ref a1, .ref a2, .ref a3, .ref a4, .ref a5, .int 0, .ref a7, .ref a8, .ref a9, .ref a10, .ref a11, .ref a12])), (a12, .inr (7, [.ref r0, .ref r1, .ref r2, .ref r3])), (r0, .inl (cy 0, 6, .inl (fun _ => (-1)))), (r1, .inl (cy 0, 6, .inl (fun _ => (-1)))), (r2, .inl (cy 0, 6, .inl (fun _ => 0))), (r3, .inl (cy 7, 6, .inr (.inr (.inr (.inr (fun i => if i < 6 then some (g i) else none)))))), ((g 2), .inl (cy 4, 60, .inr (.inl (fun _ => 0))))] sz)) 0 0 (va_A [(h0, .inr (11, [.ref a0, .ref a1, .ref a2, .ref a3, .ref a4, .ref a5, .int 0, .ref a7, .ref a8, .ref a9, .ref a10, .ref a11, .ref a12])), (a12, .inr (7, [.ref r0, .ref r1, .ref r2, .ref r3])), (r0, .inl (cy 0, 6, .inl (fun _ => (-1)))), (r1, .inl (cy 0, 6, .inl (fun _ => (-1)))), (r2, .inl (cy 0, 6, .inl (fun _ => 0))), (r3, .inl (cy 7, 6, .inr (.inr (.inr (.inr (fun i => if i < 6 then some (g i) else none)))))), ((g 2), .inl (cy 4, 60, .inr (.inl (fun _ => 0))))] sz) := by
  refine Met.ofW (cc := cX11_row) (maxL := 4) (ret := (some .int)) (by decide) rfl ?_
  intro p e s m args below meth c s₁ B hml hv
  obtain ⟨rfl, hsz, hP, hK, hD0, hN⟩ := hv
  have hx := B.exec
  have hb := B.bytes
  have hr := B.returns
  have hts := atoms_spec (ws := wsX11_row) B.pre
  have hown : s.vm.findClass RX11 = some m.cls := findClass_of_methodNamed B.named
  have hlocks := B.notSynchronized
  subst hsz
  have hD := hD0.self (sz := s.heap.size)
  generalize hAe : va_A [(h0, .inr (11, [.ref a0, .ref a1, .ref a2, .ref a3, .ref a4, .ref a5, .int 0, .ref a7, .ref a8, .ref a9, .ref a10, .ref a11, .ref a12])), (a12, .inr (7, [.ref r0, .ref r1, .ref r2, .ref r3])), (r0, .inl (cy 0, 6, .inl (fun _ => (-1)))), (r1, .inl (cy 0, 6, .inl (fun _ => (-1)))), (r2, .inl (cy 0, 6, .inl (fun _ => 0))), (r3, .inl (cy 7, 6, .inr (.inr (.inr (.inr (fun i => if i < 6 then some (g i) else none)))))), ((g 2), .inl (cy 4, 60, .inr (.inl (fun _ => 0))))] s.heap.size = A at hD ⊢
  have hA : ∀ q : Nat, s.heap.size ≤ q → A q := fun q h => by rw [← hAe]; exact Or.inr h
  have hS : va_S A s.heap s.heap [] := va_S.rf
  have hl := lv_entry ([.ref h0, .int 2, .int p0, .int p1]) (n := 4) (Nat.le_of_ble_eq_true rfl)
  rw [lg_entry_eq]
  generalize (lg_sl ([.ref h0, .int 2, .int p0, .int p1]) ++ List.replicate (4 - (lg_sl ([.ref h0, .int 2, .int p0, .int p1])).length) Slot.unset).toArray = ls at hl ⊢
  have hl : lv_has ls 4 [(0, .ref h0), (1, .int 2), (2, .int p0), (3, .int p1)] := hl
  refine lv_iload_n hx hb dX11_row_0 rfl (lv_at hl 1 rfl) ?_
  have hPc := hP.sub (ws' := []) [] rfl
  have hDc := hD.sub (ws' := []) [] (by decide) rfl
  refine vz_callSi (va_runS (As := [.int 2]) (rest := []) ⟨hx, hb, hml, hown, hts⟩ (c_isShelf l dC dI cy 2 s.heap.size) (va_cwS 1 hts gX11_row_X11_isShelf rfl rfl rfl (by decide +kernel) ⟨Nat.le_of_ble_eq_true rfl, Nat.le_of_ble_eq_true rfl⟩) (wp_S hK hN hPc hDc) rfl rfl hl.1 rfl (lv_room (Nat.le_of_ble_eq_true rfl)) dX11_row_1 ⟨Nat.le_of_ble_eq_true rfl, Nat.le_of_ble_eq_true rfl⟩) (fun r_1 hw_1 => ?_)
  rcases hw_1 with ⟨c_1, hw_1⟩ | ⟨c_1, hw_1⟩ <;> subst hw_1
  · have ic_1 : 0 ≤ (2 : Int) ∧ (2 : Int) ≤ 5 := c_1
    refine lv_if_eq (tgt := 22) hx hb dX11_row_4 (by decide) (fun c_2 => absurd c_2 (by decide)) (fun _ => ?_)
    refine lv_iload_n hx hb dX11_row_7 rfl (lv_at hl 2 rfl) ?_
    change W _ _ _ _ _ _ _ _ _ _ _ _ _ _ _ (F0 m 8 ls [.int p0])
    refine lv_if_lt (tgt := 22) hx hb dX11_row_8 (by decide) (fun c_3 => ?_) (fun c_3 => ?_)
    · have ic_3 : p0.toInt < (0 : Int) := Int32.lt_iff_toInt_lt.mp c_3
      refine lv_iconst (v := (-1)) hx hb dX11_row_22 (by decide) ?_
      exact W.iret (v := (-1)) hx hb hr (fun t ht hW => ⟨⟨(-1), (), rfl, (by have e9 : (2 : Int32).toInt = 2 := rfl; unfold sp_row; split <;> (try split) <;> first | rfl | (exfalso; omega)), trivial⟩, hS.F ht⟩) hS.2.2 dX11_row_23
    · have ic_3 : ¬ p0.toInt < (0 : Int) := fun h9 => c_3 (Int32.lt_iff_toInt_lt.mpr h9)
      refine lv_iload_n hx hb dX11_row_11 rfl (lv_at hl 2 rfl) ?_
      refine lv_iconst (v := 4) hx hb dX11_row_12 (by decide) ?_
      refine lv_icmp_gt (tgt := 22) hx hb dX11_row_13 (by decide) (fun c_4 => ?_) (fun c_4 => ?_)
      · have ic_4 : (4 : Int) < p0.toInt := Int32.lt_iff_toInt_lt.mp c_4
        refine lv_iconst (v := (-1)) hx hb dX11_row_22 (by decide) ?_
        exact W.iret (v := (-1)) hx hb hr (fun t ht hW => ⟨⟨(-1), (), rfl, (by have e9 : (2 : Int32).toInt = 2 := rfl; unfold sp_row; split <;> (try split) <;> first | rfl | (exfalso; omega)), trivial⟩, hS.F ht⟩) hS.2.2 dX11_row_23
      · have ic_4 : ¬ (4 : Int) < p0.toInt := fun h9 => c_4 (Int32.lt_iff_toInt_lt.mpr h9)
        refine lv_iload_n hx hb dX11_row_16 rfl (lv_at hl 3 rfl) ?_
        refine lv_bipush (v := 60) hx hb dX11_row_17 (by decide) ?_
        refine lv_icmp_le (tgt := 24) hx hb dX11_row_19 (by decide) (fun c_5 => ?_) (fun c_5 => ?_)
        · have ic_5 : p1.toInt ≤ (60 : Int) := Int32.le_iff_toInt_le.mp c_5
          refine lv_iload_n hx hb dX11_row_24 rfl (lv_at hl 3 rfl) ?_
          refine lv_if_ge (tgt := 31) hx hb dX11_row_25 (by decide) (fun c_6 => ?_) (fun c_6 => ?_)
          · have ic_6 : (0 : Int) ≤ p1.toInt := Int32.le_iff_toInt_le.mp c_6
            refine lv_aload_n hx hb dX11_row_31 rfl (lv_at hl 0 rfl) ?_
            change W _ _ _ _ _ _ _ _ _ _ _ _ _ _ _ (F0 m 32 ls [.ref h0])
            refine va_get (D := (dC, dI)) (ci := 11) (v := .ref a12) (C := RX11) (T := TX11) (N := 13) hx hb hts (fun _ h9 => List.mem_cons_of_mem _ (List.mem_append_left _ (List.mem_append_right _ h9))) hown hK hP 0 rfl rfl 12 (by decide) (hts (.fieldLink RX11 98 "SeatsRound" "rows" "LSeatsRound$Rows;") (List.mem_of_getElem? (i := 1) rfl)) (fun _ h9 => h9) rfl dX11_row_32 ?_
            refine lv_iload_n hx hb dX11_row_35 rfl (lv_at hl 1 rfl) ?_
            refine lv_iload_n hx hb dX11_row_36 rfl (lv_at hl 2 rfl) ?_
            refine lv_iload_n hx hb dX11_row_37 rfl (lv_at hl 3 rfl) ?_
            have hPc := hP.sub (ws' := [(a12, .inr (7, [.ref r0, .ref r1, .ref r2, .ref r3])), (r0, .inl (cy 0, 6, .inl (fun _ => (-1)))), (r1, .inl (cy 0, 6, .inl (fun _ => (-1)))), (r2, .inl (cy 0, 6, .inl (fun _ => 0))), (r3, .inl (cy 7, 6, .inr (.inr (.inr (.inr (fun i => if i < 6 then some (g i) else none)))))), ((g 2), .inl (cy 4, 60, .inr (.inl (fun _ => 0))))]) [1, 2, 3, 4, 5, 6] rfl
            have hDc := hD.sub (ws' := [(a12, .inr (7, [.ref r0, .ref r1, .ref r2, .ref r3])), (r0, .inl (cy 0, 6, .inl (fun _ => (-1)))), (r1, .inl (cy 0, 6, .inl (fun _ => (-1)))), (r2, .inl (cy 0, 6, .inl (fun _ => 0))), (r3, .inl (cy 7, 6, .inr (.inr (.inr (.inr (fun i => if i < 6 then some (g i) else none)))))), ((g 2), .inl (cy 4, 60, .inr (.inl (fun _ => 0))))]) [1, 2, 3, 4, 5, 6] (by decide) rfl
            have hFc := va_free (wc := [(a12, .inr (7, [.ref r0, .ref r1, .ref r2, .ref r3])), (r0, .inl (cy 0, 6, .inl (fun _ => (-1)))), (r1, .inl (cy 0, 6, .inl (fun _ => (-1)))), (r2, .inl (cy 0, 6, .inl (fun _ => 0))), (r3, .inl (cy 7, 6, .inr (.inr (.inr (.inr (fun i => if i < 6 then some (g i) else none)))))), ((g 2), .inl (cy 4, 60, .inr (.inl (fun _ => 0))))]) hD hS hA [1, 2, 3, 4, 5, 6] rfl
            refine va_callv (va_runV (As := [.int 2, .int p0, .int p1]) (rest := []) ⟨hx, hb, hml, hown, hts⟩ (c_RW_holdRow_2 l dC dI cy a12 r0 r1 r2 r3 g p0 p1 s.heap.size) (cwV 3 hts gX11_row_X7_holdRow rfl rfl rfl (by decide +kernel) ⟨Nat.le_of_ble_eq_true rfl, Nat.le_of_ble_eq_true rfl⟩) (wp_V hK hN hPc hDc (va_recv hK hPc (ci := 7) (q0 := 0) rfl rfl)) rfl rfl hl.1 rfl (lv_room (Nat.le_of_ble_eq_true rfl)) dX11_row_38 ⟨Nat.le_of_ble_eq_true rfl, Nat.le_of_ble_eq_true rfl⟩) hS (fun q _ h => hFc q h) hFc (fun u_7 t H1 locs ht hvm hw_7 hB hz1 hk1 hS => ?_)
            have hP1 : va_P (dC, dI) vwCl [] H1 := fun k q h => by simp at h
            have hD1 : va_D (va_A [(a12, .inr (7, [.ref r0, .ref r1, .ref r2, .ref r3])), (r0, .inl (cy 0, 6, .inl (fun _ => (-1)))), (r1, .inl (cy 0, 6, .inl (fun _ => (-1)))), (r2, .inl (cy 0, 6, .inl (fun _ => 0))), (r3, .inl (cy 7, 6, .inr (.inr (.inr (.inr (fun i => if i < 6 then some (g i) else none)))))), ((g 2), .inl (cy 4, 60, .inr (.inl (fun _ => 0))))] s.heap.size) [] := ⟨fun i j p q h => by simp at h, fun k q h => by simp at h⟩
            obtain ⟨hP, hD⟩ := va_join (wr := [(h0, .inr (11, [.ref a0, .ref a1, .ref a2, .ref a3, .ref a4, .ref a5, .int 0, .ref a7, .ref a8, .ref a9, .ref a10, .ref a11, .ref a12]))]) (w1 := []) hP hD [1, 2, 3, 4, 5, 6] [0] rfl rfl (by decide) (by decide) hk1 hFc hP1 hD1
            generalize H1 = H at hP hS ⊢
            have hP : va_P (dC, dI) vwCl [(h0, .inr (11, [.ref a0, .ref a1, .ref a2, .ref a3, .ref a4, .ref a5, .int 0, .ref a7, .ref a8, .ref a9, .ref a10, .ref a11, .ref a12]))] H := hP
            have hD : va_D A [(h0, .inr (11, [.ref a0, .ref a1, .ref a2, .ref a3, .ref a4, .ref a5, .int 0, .ref a7, .ref a8, .ref a9, .ref a10, .ref a11, .ref a12]))] := hD
            refine lv_iconst (v := 1) hx hb dX11_row_41 (by decide) ?_
            exact W.iret (v := 1) hx hb hr (fun t ht hW => ⟨⟨1, (), rfl, (by have e9 : (2 : Int32).toInt = 2 := rfl; unfold sp_row; split <;> (try split) <;> first | rfl | (exfalso; omega)), trivial⟩, hS.F ht⟩) hS.2.2 dX11_row_42
          · have ic_6 : ¬ (0 : Int) ≤ p1.toInt := fun h9 => c_6 (Int32.le_iff_toInt_le.mpr h9)
            refine lv_bipush (v := (-14)) hx hb dX11_row_28 (by decide) ?_
            exact W.iret (v := (-14)) hx hb hr (fun t ht hW => ⟨⟨(-14), (), rfl, (by have e9 : (2 : Int32).toInt = 2 := rfl; unfold sp_row; split <;> (try split) <;> first | rfl | (exfalso; omega)), trivial⟩, hS.F ht⟩) hS.2.2 dX11_row_30
        · have ic_5 : ¬ p1.toInt ≤ (60 : Int) := fun h9 => c_5 (Int32.le_iff_toInt_le.mpr h9)
          refine lv_iconst (v := (-1)) hx hb dX11_row_22 (by decide) ?_
          change W _ _ _ _ _ _ _ _ _ _ _ _ _ _ _ (F0 m 23 ls [.int (-1)])
          exact W.iret (v := (-1)) hx hb hr (fun t ht hW => ⟨⟨(-1), (), rfl, (by have e9 : (2 : Int32).toInt = 2 := rfl; unfold sp_row; split <;> (try split) <;> first | rfl | (exfalso; omega)), trivial⟩, hS.F ht⟩) hS.2.2 dX11_row_23
  · have ic_1 : ¬ (0 ≤ (2 : Int) ∧ (2 : Int) ≤ 5) := c_1
    exact absurd True.intro (by omega)
set_option maxHeartbeats 4000000 in
set_option maxRecDepth 100000 in
theorem c_row_3 (l : Launch) (dC : Nat → ClassId) (dI : Nat → Nat → Nat) (cy : Nat → ClassId) (h0 : Nat) (a0 : Nat) (a1 : Nat) (a2 : Nat) (a3 : Nat) (a4 : Nat) (a5 : Nat) (a7 : Nat) (a8 : Nat) (a9 : Nat) (a10 : Nat) (a11 : Nat) (a12 : Nat) (r0 : Nat) (r1 : Nat) (r2 : Nat) (r3 : Nat) (g : Nat → Nat) (p0 : Int32) (p1 : Int32) (sz : Nat)  : Met l yX11_row wsX11_row ({ frames := 3, cells := 0, slots := 0, locals := 70 }) (va_Pc [.ref h0, .int 3, .int p0, .int p1] (wPre (dC, dI) cy [(h0, .inr (11, [.ref a0, .ref a1, .ref a2, .ref a3, .ref a4, .ref a5, .int 0, .ref a7, .ref a8, .ref a9, .ref a10, .ref a11, .ref a12])), (a12, .inr (7, [.ref r0, .ref r1, .ref r2, .ref r3])), (r0, .inl (cy 0, 6, .inl (fun _ => (-1)))), (r1, .inl (cy 0, 6, .inl (fun _ => (-1)))), (r2, .inl (cy 0, 6, .inl (fun _ => 0))), (r3, .inl (cy 7, 6, .inr (.inr (.inr (.inr (fun i => if i < 6 then some (g i) else none)))))), ((g 3), .inl (cy 4, 60, .inr (.inl (fun _ => 0))))] sz)) (va_Qi (fun (r : Int32) (u : Unit) => r = sp_row 3 p0 p1) (fun (u : Unit) t => True) (va_A [(h0, .inr (11, [.ref a0, .ref a1, .ref a2, .ref a3, .ref a4, .ref a5, .int 0, .ref a7, .ref a8, .ref a9, .ref a10, .ref a11, .ref a12])), (a12, .inr (7, [.ref r0, .ref r1, .ref r2, .ref r3])), (r0, .inl (cy 0, 6, .inl (fun _ => (-1)))), (r1, .inl (cy 0, 6, .inl (fun _ => (-1)))), (r2, .inl (cy 0, 6, .inl (fun _ => 0))), (r3, .inl (cy 7, 6, .inr (.inr (.inr (.inr (fun i => if i < 6 then some (g i) else none)))))), ((g 3), .inl (cy 4, 60, .inr (.inl (fun _ => 0))))] sz)) 0 0 (va_A [(h0, .inr (11, [.ref a0, .ref a1, .ref a2, .ref a3, .ref a4, .ref a5, .int 0, .ref a7, .ref a8, .ref a9, .ref a10, .ref a11, .ref a12])), (a12, .inr (7, [.ref r0, .ref r1, .ref r2, .ref r3])), (r0, .inl (cy 0, 6, .inl (fun _ => (-1)))), (r1, .inl (cy 0, 6, .inl (fun _ => (-1)))), (r2, .inl (cy 0, 6, .inl (fun _ => 0))), (r3, .inl (cy 7, 6, .inr (.inr (.inr (.inr (fun i => if i < 6 then some (g i) else none)))))), ((g 3), .inl (cy 4, 60, .inr (.inl (fun _ => 0))))] sz) := by
  refine Met.ofW (cc := cX11_row) (maxL := 4) (ret := (some .int)) (by decide) rfl ?_
  intro p e s m args below meth c s₁ B hml hv
  obtain ⟨rfl, hsz, hP, hK, hD0, hN⟩ := hv
  have hx := B.exec
  have hb := B.bytes
  have hr := B.returns
  have hts := atoms_spec (ws := wsX11_row) B.pre
  have hown : s.vm.findClass RX11 = some m.cls := findClass_of_methodNamed B.named
  have hlocks := B.notSynchronized
  subst hsz
  have hD := hD0.self (sz := s.heap.size)
  generalize hAe : va_A [(h0, .inr (11, [.ref a0, .ref a1, .ref a2, .ref a3, .ref a4, .ref a5, .int 0, .ref a7, .ref a8, .ref a9, .ref a10, .ref a11, .ref a12])), (a12, .inr (7, [.ref r0, .ref r1, .ref r2, .ref r3])), (r0, .inl (cy 0, 6, .inl (fun _ => (-1)))), (r1, .inl (cy 0, 6, .inl (fun _ => (-1)))), (r2, .inl (cy 0, 6, .inl (fun _ => 0))), (r3, .inl (cy 7, 6, .inr (.inr (.inr (.inr (fun i => if i < 6 then some (g i) else none)))))), ((g 3), .inl (cy 4, 60, .inr (.inl (fun _ => 0))))] s.heap.size = A at hD ⊢
  have hA : ∀ q : Nat, s.heap.size ≤ q → A q := fun q h => by rw [← hAe]; exact Or.inr h
  have hS : va_S A s.heap s.heap [] := va_S.rf
  have hl := lv_entry ([.ref h0, .int 3, .int p0, .int p1]) (n := 4) (Nat.le_of_ble_eq_true rfl)
  rw [lg_entry_eq]
  generalize (lg_sl ([.ref h0, .int 3, .int p0, .int p1]) ++ List.replicate (4 - (lg_sl ([.ref h0, .int 3, .int p0, .int p1])).length) Slot.unset).toArray = ls at hl ⊢
  have hl : lv_has ls 4 [(0, .ref h0), (1, .int 3), (2, .int p0), (3, .int p1)] := hl
  refine lv_iload_n hx hb dX11_row_0 rfl (lv_at hl 1 rfl) ?_
  have hPc := hP.sub (ws' := []) [] rfl
  have hDc := hD.sub (ws' := []) [] (by decide) rfl
  refine vz_callSi (va_runS (As := [.int 3]) (rest := []) ⟨hx, hb, hml, hown, hts⟩ (c_isShelf l dC dI cy 3 s.heap.size) (va_cwS 1 hts gX11_row_X11_isShelf rfl rfl rfl (by decide +kernel) ⟨Nat.le_of_ble_eq_true rfl, Nat.le_of_ble_eq_true rfl⟩) (wp_S hK hN hPc hDc) rfl rfl hl.1 rfl (lv_room (Nat.le_of_ble_eq_true rfl)) dX11_row_1 ⟨Nat.le_of_ble_eq_true rfl, Nat.le_of_ble_eq_true rfl⟩) (fun r_1 hw_1 => ?_)
  rcases hw_1 with ⟨c_1, hw_1⟩ | ⟨c_1, hw_1⟩ <;> subst hw_1
  · have ic_1 : 0 ≤ (3 : Int) ∧ (3 : Int) ≤ 5 := c_1
    refine lv_if_eq (tgt := 22) hx hb dX11_row_4 (by decide) (fun c_2 => absurd c_2 (by decide)) (fun _ => ?_)
    refine lv_iload_n hx hb dX11_row_7 rfl (lv_at hl 2 rfl) ?_
    refine lv_if_lt (tgt := 22) hx hb dX11_row_8 (by decide) (fun c_3 => ?_) (fun c_3 => ?_)
    · have ic_3 : p0.toInt < (0 : Int) := Int32.lt_iff_toInt_lt.mp c_3
      refine lv_iconst (v := (-1)) hx hb dX11_row_22 (by decide) ?_
      exact W.iret (v := (-1)) hx hb hr (fun t ht hW => ⟨⟨(-1), (), rfl, (by have e9 : (3 : Int32).toInt = 3 := rfl; unfold sp_row; split <;> (try split) <;> first | rfl | (exfalso; omega)), trivial⟩, hS.F ht⟩) hS.2.2 dX11_row_23
    · have ic_3 : ¬ p0.toInt < (0 : Int) := fun h9 => c_3 (Int32.lt_iff_toInt_lt.mpr h9)
      refine lv_iload_n hx hb dX11_row_11 rfl (lv_at hl 2 rfl) ?_
      change W _ _ _ _ _ _ _ _ _ _ _ _ _ _ _ (F0 m 12 ls [.int p0])
      refine lv_iconst (v := 4) hx hb dX11_row_12 (by decide) ?_
      refine lv_icmp_gt (tgt := 22) hx hb dX11_row_13 (by decide) (fun c_4 => ?_) (fun c_4 => ?_)
      · have ic_4 : (4 : Int) < p0.toInt := Int32.lt_iff_toInt_lt.mp c_4
        refine lv_iconst (v := (-1)) hx hb dX11_row_22 (by decide) ?_
        exact W.iret (v := (-1)) hx hb hr (fun t ht hW => ⟨⟨(-1), (), rfl, (by have e9 : (3 : Int32).toInt = 3 := rfl; unfold sp_row; split <;> (try split) <;> first | rfl | (exfalso; omega)), trivial⟩, hS.F ht⟩) hS.2.2 dX11_row_23
      · have ic_4 : ¬ (4 : Int) < p0.toInt := fun h9 => c_4 (Int32.lt_iff_toInt_lt.mpr h9)
        refine lv_iload_n hx hb dX11_row_16 rfl (lv_at hl 3 rfl) ?_
        refine lv_bipush (v := 60) hx hb dX11_row_17 (by decide) ?_
        refine lv_icmp_le (tgt := 24) hx hb dX11_row_19 (by decide) (fun c_5 => ?_) (fun c_5 => ?_)
        · have ic_5 : p1.toInt ≤ (60 : Int) := Int32.le_iff_toInt_le.mp c_5
          refine lv_iload_n hx hb dX11_row_24 rfl (lv_at hl 3 rfl) ?_
          refine lv_if_ge (tgt := 31) hx hb dX11_row_25 (by decide) (fun c_6 => ?_) (fun c_6 => ?_)
          · have ic_6 : (0 : Int) ≤ p1.toInt := Int32.le_iff_toInt_le.mp c_6
            refine lv_aload_n hx hb dX11_row_31 rfl (lv_at hl 0 rfl) ?_
            refine va_get (D := (dC, dI)) (ci := 11) (v := .ref a12) (C := RX11) (T := TX11) (N := 13) hx hb hts (fun _ h9 => List.mem_cons_of_mem _ (List.mem_append_left _ (List.mem_append_right _ h9))) hown hK hP 0 rfl rfl 12 (by decide) (hts (.fieldLink RX11 98 "SeatsRound" "rows" "LSeatsRound$Rows;") (List.mem_of_getElem? (i := 1) rfl)) (fun _ h9 => h9) rfl dX11_row_32 ?_
            refine lv_iload_n hx hb dX11_row_35 rfl (lv_at hl 1 rfl) ?_
            change W _ _ _ _ _ _ _ _ _ _ _ _ _ _ _ (F0 m 36 ls [.int 3, .ref a12])
            refine lv_iload_n hx hb dX11_row_36 rfl (lv_at hl 2 rfl) ?_
            refine lv_iload_n hx hb dX11_row_37 rfl (lv_at hl 3 rfl) ?_
            have hPc := hP.sub (ws' := [(a12, .inr (7, [.ref r0, .ref r1, .ref r2, .ref r3])), (r0, .inl (cy 0, 6, .inl (fun _ => (-1)))), (r1, .inl (cy 0, 6, .inl (fun _ => (-1)))), (r2, .inl (cy 0, 6, .inl (fun _ => 0))), (r3, .inl (cy 7, 6, .inr (.inr (.inr (.inr (fun i => if i < 6 then some (g i) else none)))))), ((g 3), .inl (cy 4, 60, .inr (.inl (fun _ => 0))))]) [1, 2, 3, 4, 5, 6] rfl
            have hDc := hD.sub (ws' := [(a12, .inr (7, [.ref r0, .ref r1, .ref r2, .ref r3])), (r0, .inl (cy 0, 6, .inl (fun _ => (-1)))), (r1, .inl (cy 0, 6, .inl (fun _ => (-1)))), (r2, .inl (cy 0, 6, .inl (fun _ => 0))), (r3, .inl (cy 7, 6, .inr (.inr (.inr (.inr (fun i => if i < 6 then some (g i) else none)))))), ((g 3), .inl (cy 4, 60, .inr (.inl (fun _ => 0))))]) [1, 2, 3, 4, 5, 6] (by decide) rfl
            have hFc := va_free (wc := [(a12, .inr (7, [.ref r0, .ref r1, .ref r2, .ref r3])), (r0, .inl (cy 0, 6, .inl (fun _ => (-1)))), (r1, .inl (cy 0, 6, .inl (fun _ => (-1)))), (r2, .inl (cy 0, 6, .inl (fun _ => 0))), (r3, .inl (cy 7, 6, .inr (.inr (.inr (.inr (fun i => if i < 6 then some (g i) else none)))))), ((g 3), .inl (cy 4, 60, .inr (.inl (fun _ => 0))))]) hD hS hA [1, 2, 3, 4, 5, 6] rfl
            refine va_callv (va_runV (As := [.int 3, .int p0, .int p1]) (rest := []) ⟨hx, hb, hml, hown, hts⟩ (c_RW_holdRow_3 l dC dI cy a12 r0 r1 r2 r3 g p0 p1 s.heap.size) (cwV 3 hts gX11_row_X7_holdRow rfl rfl rfl (by decide +kernel) ⟨Nat.le_of_ble_eq_true rfl, Nat.le_of_ble_eq_true rfl⟩) (wp_V hK hN hPc hDc (va_recv hK hPc (ci := 7) (q0 := 0) rfl rfl)) rfl rfl hl.1 rfl (lv_room (Nat.le_of_ble_eq_true rfl)) dX11_row_38 ⟨Nat.le_of_ble_eq_true rfl, Nat.le_of_ble_eq_true rfl⟩) hS (fun q _ h => hFc q h) hFc (fun u_7 t H1 locs ht hvm hw_7 hB hz1 hk1 hS => ?_)
            have hP1 : va_P (dC, dI) vwCl [] H1 := fun k q h => by simp at h
            have hD1 : va_D (va_A [(a12, .inr (7, [.ref r0, .ref r1, .ref r2, .ref r3])), (r0, .inl (cy 0, 6, .inl (fun _ => (-1)))), (r1, .inl (cy 0, 6, .inl (fun _ => (-1)))), (r2, .inl (cy 0, 6, .inl (fun _ => 0))), (r3, .inl (cy 7, 6, .inr (.inr (.inr (.inr (fun i => if i < 6 then some (g i) else none)))))), ((g 3), .inl (cy 4, 60, .inr (.inl (fun _ => 0))))] s.heap.size) [] := ⟨fun i j p q h => by simp at h, fun k q h => by simp at h⟩
            obtain ⟨hP, hD⟩ := va_join (wr := [(h0, .inr (11, [.ref a0, .ref a1, .ref a2, .ref a3, .ref a4, .ref a5, .int 0, .ref a7, .ref a8, .ref a9, .ref a10, .ref a11, .ref a12]))]) (w1 := []) hP hD [1, 2, 3, 4, 5, 6] [0] rfl rfl (by decide) (by decide) hk1 hFc hP1 hD1
            generalize H1 = H at hP hS ⊢
            have hP : va_P (dC, dI) vwCl [(h0, .inr (11, [.ref a0, .ref a1, .ref a2, .ref a3, .ref a4, .ref a5, .int 0, .ref a7, .ref a8, .ref a9, .ref a10, .ref a11, .ref a12]))] H := hP
            have hD : va_D A [(h0, .inr (11, [.ref a0, .ref a1, .ref a2, .ref a3, .ref a4, .ref a5, .int 0, .ref a7, .ref a8, .ref a9, .ref a10, .ref a11, .ref a12]))] := hD
            refine lv_iconst (v := 1) hx hb dX11_row_41 (by decide) ?_
            exact W.iret (v := 1) hx hb hr (fun t ht hW => ⟨⟨1, (), rfl, (by have e9 : (3 : Int32).toInt = 3 := rfl; unfold sp_row; split <;> (try split) <;> first | rfl | (exfalso; omega)), trivial⟩, hS.F ht⟩) hS.2.2 dX11_row_42
          · have ic_6 : ¬ (0 : Int) ≤ p1.toInt := fun h9 => c_6 (Int32.le_iff_toInt_le.mpr h9)
            refine lv_bipush (v := (-14)) hx hb dX11_row_28 (by decide) ?_
            exact W.iret (v := (-14)) hx hb hr (fun t ht hW => ⟨⟨(-14), (), rfl, (by have e9 : (3 : Int32).toInt = 3 := rfl; unfold sp_row; split <;> (try split) <;> first | rfl | (exfalso; omega)), trivial⟩, hS.F ht⟩) hS.2.2 dX11_row_30
        · have ic_5 : ¬ p1.toInt ≤ (60 : Int) := fun h9 => c_5 (Int32.le_iff_toInt_le.mpr h9)
          refine lv_iconst (v := (-1)) hx hb dX11_row_22 (by decide) ?_
          exact W.iret (v := (-1)) hx hb hr (fun t ht hW => ⟨⟨(-1), (), rfl, (by have e9 : (3 : Int32).toInt = 3 := rfl; unfold sp_row; split <;> (try split) <;> first | rfl | (exfalso; omega)), trivial⟩, hS.F ht⟩) hS.2.2 dX11_row_23
  · have ic_1 : ¬ (0 ≤ (3 : Int) ∧ (3 : Int) ≤ 5) := c_1
    exact absurd True.intro (by omega)
set_option maxHeartbeats 4000000 in
set_option maxRecDepth 100000 in
theorem c_row_4 (l : Launch) (dC : Nat → ClassId) (dI : Nat → Nat → Nat) (cy : Nat → ClassId) (h0 : Nat) (a0 : Nat) (a1 : Nat) (a2 : Nat) (a3 : Nat) (a4 : Nat) (a5 : Nat) (a7 : Nat) (a8 : Nat) (a9 : Nat) (a10 : Nat) (a11 : Nat) (a12 : Nat) (r0 : Nat) (r1 : Nat) (r2 : Nat) (r3 : Nat) (g : Nat → Nat) (p0 : Int32) (p1 : Int32) (sz : Nat)  : Met l yX11_row wsX11_row ({ frames := 3, cells := 0, slots := 0, locals := 70 }) (va_Pc [.ref h0, .int 4, .int p0, .int p1] (wPre (dC, dI) cy [(h0, .inr (11, [.ref a0, .ref a1, .ref a2, .ref a3, .ref a4, .ref a5, .int 0, .ref a7, .ref a8, .ref a9, .ref a10, .ref a11, .ref a12])), (a12, .inr (7, [.ref r0, .ref r1, .ref r2, .ref r3])), (r0, .inl (cy 0, 6, .inl (fun _ => (-1)))), (r1, .inl (cy 0, 6, .inl (fun _ => (-1)))), (r2, .inl (cy 0, 6, .inl (fun _ => 0))), (r3, .inl (cy 7, 6, .inr (.inr (.inr (.inr (fun i => if i < 6 then some (g i) else none)))))), ((g 4), .inl (cy 4, 60, .inr (.inl (fun _ => 0))))] sz)) (va_Qi (fun (r : Int32) (u : Unit) => r = sp_row 4 p0 p1) (fun (u : Unit) t => True) (va_A [(h0, .inr (11, [.ref a0, .ref a1, .ref a2, .ref a3, .ref a4, .ref a5, .int 0, .ref a7, .ref a8, .ref a9, .ref a10, .ref a11, .ref a12])), (a12, .inr (7, [.ref r0, .ref r1, .ref r2, .ref r3])), (r0, .inl (cy 0, 6, .inl (fun _ => (-1)))), (r1, .inl (cy 0, 6, .inl (fun _ => (-1)))), (r2, .inl (cy 0, 6, .inl (fun _ => 0))), (r3, .inl (cy 7, 6, .inr (.inr (.inr (.inr (fun i => if i < 6 then some (g i) else none)))))), ((g 4), .inl (cy 4, 60, .inr (.inl (fun _ => 0))))] sz)) 0 0 (va_A [(h0, .inr (11, [.ref a0, .ref a1, .ref a2, .ref a3, .ref a4, .ref a5, .int 0, .ref a7, .ref a8, .ref a9, .ref a10, .ref a11, .ref a12])), (a12, .inr (7, [.ref r0, .ref r1, .ref r2, .ref r3])), (r0, .inl (cy 0, 6, .inl (fun _ => (-1)))), (r1, .inl (cy 0, 6, .inl (fun _ => (-1)))), (r2, .inl (cy 0, 6, .inl (fun _ => 0))), (r3, .inl (cy 7, 6, .inr (.inr (.inr (.inr (fun i => if i < 6 then some (g i) else none)))))), ((g 4), .inl (cy 4, 60, .inr (.inl (fun _ => 0))))] sz) := by
  refine Met.ofW (cc := cX11_row) (maxL := 4) (ret := (some .int)) (by decide) rfl ?_
  intro p e s m args below meth c s₁ B hml hv
  obtain ⟨rfl, hsz, hP, hK, hD0, hN⟩ := hv
  have hx := B.exec
  have hb := B.bytes
  have hr := B.returns
  have hts := atoms_spec (ws := wsX11_row) B.pre
  have hown : s.vm.findClass RX11 = some m.cls := findClass_of_methodNamed B.named
  have hlocks := B.notSynchronized
  subst hsz
  have hD := hD0.self (sz := s.heap.size)
  generalize hAe : va_A [(h0, .inr (11, [.ref a0, .ref a1, .ref a2, .ref a3, .ref a4, .ref a5, .int 0, .ref a7, .ref a8, .ref a9, .ref a10, .ref a11, .ref a12])), (a12, .inr (7, [.ref r0, .ref r1, .ref r2, .ref r3])), (r0, .inl (cy 0, 6, .inl (fun _ => (-1)))), (r1, .inl (cy 0, 6, .inl (fun _ => (-1)))), (r2, .inl (cy 0, 6, .inl (fun _ => 0))), (r3, .inl (cy 7, 6, .inr (.inr (.inr (.inr (fun i => if i < 6 then some (g i) else none)))))), ((g 4), .inl (cy 4, 60, .inr (.inl (fun _ => 0))))] s.heap.size = A at hD ⊢
  have hA : ∀ q : Nat, s.heap.size ≤ q → A q := fun q h => by rw [← hAe]; exact Or.inr h
  have hS : va_S A s.heap s.heap [] := va_S.rf
  have hl := lv_entry ([.ref h0, .int 4, .int p0, .int p1]) (n := 4) (Nat.le_of_ble_eq_true rfl)
  rw [lg_entry_eq]
  generalize (lg_sl ([.ref h0, .int 4, .int p0, .int p1]) ++ List.replicate (4 - (lg_sl ([.ref h0, .int 4, .int p0, .int p1])).length) Slot.unset).toArray = ls at hl ⊢
  have hl : lv_has ls 4 [(0, .ref h0), (1, .int 4), (2, .int p0), (3, .int p1)] := hl
  refine lv_iload_n hx hb dX11_row_0 rfl (lv_at hl 1 rfl) ?_
  have hPc := hP.sub (ws' := []) [] rfl
  have hDc := hD.sub (ws' := []) [] (by decide) rfl
  refine vz_callSi (va_runS (As := [.int 4]) (rest := []) ⟨hx, hb, hml, hown, hts⟩ (c_isShelf l dC dI cy 4 s.heap.size) (va_cwS 1 hts gX11_row_X11_isShelf rfl rfl rfl (by decide +kernel) ⟨Nat.le_of_ble_eq_true rfl, Nat.le_of_ble_eq_true rfl⟩) (wp_S hK hN hPc hDc) rfl rfl hl.1 rfl (lv_room (Nat.le_of_ble_eq_true rfl)) dX11_row_1 ⟨Nat.le_of_ble_eq_true rfl, Nat.le_of_ble_eq_true rfl⟩) (fun r_1 hw_1 => ?_)
  rcases hw_1 with ⟨c_1, hw_1⟩ | ⟨c_1, hw_1⟩ <;> subst hw_1
  · have ic_1 : 0 ≤ (4 : Int) ∧ (4 : Int) ≤ 5 := c_1
    refine lv_if_eq (tgt := 22) hx hb dX11_row_4 (by decide) (fun c_2 => absurd c_2 (by decide)) (fun _ => ?_)
    refine lv_iload_n hx hb dX11_row_7 rfl (lv_at hl 2 rfl) ?_
    refine lv_if_lt (tgt := 22) hx hb dX11_row_8 (by decide) (fun c_3 => ?_) (fun c_3 => ?_)
    · have ic_3 : p0.toInt < (0 : Int) := Int32.lt_iff_toInt_lt.mp c_3
      refine lv_iconst (v := (-1)) hx hb dX11_row_22 (by decide) ?_
      exact W.iret (v := (-1)) hx hb hr (fun t ht hW => ⟨⟨(-1), (), rfl, (by have e9 : (4 : Int32).toInt = 4 := rfl; unfold sp_row; split <;> (try split) <;> first | rfl | (exfalso; omega)), trivial⟩, hS.F ht⟩) hS.2.2 dX11_row_23
    · have ic_3 : ¬ p0.toInt < (0 : Int) := fun h9 => c_3 (Int32.lt_iff_toInt_lt.mpr h9)
      refine lv_iload_n hx hb dX11_row_11 rfl (lv_at hl 2 rfl) ?_
      refine lv_iconst (v := 4) hx hb dX11_row_12 (by decide) ?_
      refine lv_icmp_gt (tgt := 22) hx hb dX11_row_13 (by decide) (fun c_4 => ?_) (fun c_4 => ?_)
      · have ic_4 : (4 : Int) < p0.toInt := Int32.lt_iff_toInt_lt.mp c_4
        refine lv_iconst (v := (-1)) hx hb dX11_row_22 (by decide) ?_
        change W _ _ _ _ _ _ _ _ _ _ _ _ _ _ _ (F0 m 23 ls [.int (-1)])
        exact W.iret (v := (-1)) hx hb hr (fun t ht hW => ⟨⟨(-1), (), rfl, (by have e9 : (4 : Int32).toInt = 4 := rfl; unfold sp_row; split <;> (try split) <;> first | rfl | (exfalso; omega)), trivial⟩, hS.F ht⟩) hS.2.2 dX11_row_23
      · have ic_4 : ¬ (4 : Int) < p0.toInt := fun h9 => c_4 (Int32.lt_iff_toInt_lt.mpr h9)
        refine lv_iload_n hx hb dX11_row_16 rfl (lv_at hl 3 rfl) ?_
        refine lv_bipush (v := 60) hx hb dX11_row_17 (by decide) ?_
        refine lv_icmp_le (tgt := 24) hx hb dX11_row_19 (by decide) (fun c_5 => ?_) (fun c_5 => ?_)
        · have ic_5 : p1.toInt ≤ (60 : Int) := Int32.le_iff_toInt_le.mp c_5
          refine lv_iload_n hx hb dX11_row_24 rfl (lv_at hl 3 rfl) ?_
          refine lv_if_ge (tgt := 31) hx hb dX11_row_25 (by decide) (fun c_6 => ?_) (fun c_6 => ?_)
          · have ic_6 : (0 : Int) ≤ p1.toInt := Int32.le_iff_toInt_le.mp c_6
            refine lv_aload_n hx hb dX11_row_31 rfl (lv_at hl 0 rfl) ?_
            refine va_get (D := (dC, dI)) (ci := 11) (v := .ref a12) (C := RX11) (T := TX11) (N := 13) hx hb hts (fun _ h9 => List.mem_cons_of_mem _ (List.mem_append_left _ (List.mem_append_right _ h9))) hown hK hP 0 rfl rfl 12 (by decide) (hts (.fieldLink RX11 98 "SeatsRound" "rows" "LSeatsRound$Rows;") (List.mem_of_getElem? (i := 1) rfl)) (fun _ h9 => h9) rfl dX11_row_32 ?_
            refine lv_iload_n hx hb dX11_row_35 rfl (lv_at hl 1 rfl) ?_
            refine lv_iload_n hx hb dX11_row_36 rfl (lv_at hl 2 rfl) ?_
            refine lv_iload_n hx hb dX11_row_37 rfl (lv_at hl 3 rfl) ?_
            change W _ _ _ _ _ _ _ _ _ _ _ _ _ _ _ (F0 m 38 ls [.int p1, .int p0, .int 4, .ref a12])
            have hPc := hP.sub (ws' := [(a12, .inr (7, [.ref r0, .ref r1, .ref r2, .ref r3])), (r0, .inl (cy 0, 6, .inl (fun _ => (-1)))), (r1, .inl (cy 0, 6, .inl (fun _ => (-1)))), (r2, .inl (cy 0, 6, .inl (fun _ => 0))), (r3, .inl (cy 7, 6, .inr (.inr (.inr (.inr (fun i => if i < 6 then some (g i) else none)))))), ((g 4), .inl (cy 4, 60, .inr (.inl (fun _ => 0))))]) [1, 2, 3, 4, 5, 6] rfl
            have hDc := hD.sub (ws' := [(a12, .inr (7, [.ref r0, .ref r1, .ref r2, .ref r3])), (r0, .inl (cy 0, 6, .inl (fun _ => (-1)))), (r1, .inl (cy 0, 6, .inl (fun _ => (-1)))), (r2, .inl (cy 0, 6, .inl (fun _ => 0))), (r3, .inl (cy 7, 6, .inr (.inr (.inr (.inr (fun i => if i < 6 then some (g i) else none)))))), ((g 4), .inl (cy 4, 60, .inr (.inl (fun _ => 0))))]) [1, 2, 3, 4, 5, 6] (by decide) rfl
            have hFc := va_free (wc := [(a12, .inr (7, [.ref r0, .ref r1, .ref r2, .ref r3])), (r0, .inl (cy 0, 6, .inl (fun _ => (-1)))), (r1, .inl (cy 0, 6, .inl (fun _ => (-1)))), (r2, .inl (cy 0, 6, .inl (fun _ => 0))), (r3, .inl (cy 7, 6, .inr (.inr (.inr (.inr (fun i => if i < 6 then some (g i) else none)))))), ((g 4), .inl (cy 4, 60, .inr (.inl (fun _ => 0))))]) hD hS hA [1, 2, 3, 4, 5, 6] rfl
            refine va_callv (va_runV (As := [.int 4, .int p0, .int p1]) (rest := []) ⟨hx, hb, hml, hown, hts⟩ (c_RW_holdRow_4 l dC dI cy a12 r0 r1 r2 r3 g p0 p1 s.heap.size) (cwV 3 hts gX11_row_X7_holdRow rfl rfl rfl (by decide +kernel) ⟨Nat.le_of_ble_eq_true rfl, Nat.le_of_ble_eq_true rfl⟩) (wp_V hK hN hPc hDc (va_recv hK hPc (ci := 7) (q0 := 0) rfl rfl)) rfl rfl hl.1 rfl (lv_room (Nat.le_of_ble_eq_true rfl)) dX11_row_38 ⟨Nat.le_of_ble_eq_true rfl, Nat.le_of_ble_eq_true rfl⟩) hS (fun q _ h => hFc q h) hFc (fun u_7 t H1 locs ht hvm hw_7 hB hz1 hk1 hS => ?_)
            have hP1 : va_P (dC, dI) vwCl [] H1 := fun k q h => by simp at h
            have hD1 : va_D (va_A [(a12, .inr (7, [.ref r0, .ref r1, .ref r2, .ref r3])), (r0, .inl (cy 0, 6, .inl (fun _ => (-1)))), (r1, .inl (cy 0, 6, .inl (fun _ => (-1)))), (r2, .inl (cy 0, 6, .inl (fun _ => 0))), (r3, .inl (cy 7, 6, .inr (.inr (.inr (.inr (fun i => if i < 6 then some (g i) else none)))))), ((g 4), .inl (cy 4, 60, .inr (.inl (fun _ => 0))))] s.heap.size) [] := ⟨fun i j p q h => by simp at h, fun k q h => by simp at h⟩
            obtain ⟨hP, hD⟩ := va_join (wr := [(h0, .inr (11, [.ref a0, .ref a1, .ref a2, .ref a3, .ref a4, .ref a5, .int 0, .ref a7, .ref a8, .ref a9, .ref a10, .ref a11, .ref a12]))]) (w1 := []) hP hD [1, 2, 3, 4, 5, 6] [0] rfl rfl (by decide) (by decide) hk1 hFc hP1 hD1
            generalize H1 = H at hP hS ⊢
            have hP : va_P (dC, dI) vwCl [(h0, .inr (11, [.ref a0, .ref a1, .ref a2, .ref a3, .ref a4, .ref a5, .int 0, .ref a7, .ref a8, .ref a9, .ref a10, .ref a11, .ref a12]))] H := hP
            have hD : va_D A [(h0, .inr (11, [.ref a0, .ref a1, .ref a2, .ref a3, .ref a4, .ref a5, .int 0, .ref a7, .ref a8, .ref a9, .ref a10, .ref a11, .ref a12]))] := hD
            refine lv_iconst (v := 1) hx hb dX11_row_41 (by decide) ?_
            exact W.iret (v := 1) hx hb hr (fun t ht hW => ⟨⟨1, (), rfl, (by have e9 : (4 : Int32).toInt = 4 := rfl; unfold sp_row; split <;> (try split) <;> first | rfl | (exfalso; omega)), trivial⟩, hS.F ht⟩) hS.2.2 dX11_row_42
          · have ic_6 : ¬ (0 : Int) ≤ p1.toInt := fun h9 => c_6 (Int32.le_iff_toInt_le.mpr h9)
            refine lv_bipush (v := (-14)) hx hb dX11_row_28 (by decide) ?_
            exact W.iret (v := (-14)) hx hb hr (fun t ht hW => ⟨⟨(-14), (), rfl, (by have e9 : (4 : Int32).toInt = 4 := rfl; unfold sp_row; split <;> (try split) <;> first | rfl | (exfalso; omega)), trivial⟩, hS.F ht⟩) hS.2.2 dX11_row_30
        · have ic_5 : ¬ p1.toInt ≤ (60 : Int) := fun h9 => c_5 (Int32.le_iff_toInt_le.mpr h9)
          refine lv_iconst (v := (-1)) hx hb dX11_row_22 (by decide) ?_
          exact W.iret (v := (-1)) hx hb hr (fun t ht hW => ⟨⟨(-1), (), rfl, (by have e9 : (4 : Int32).toInt = 4 := rfl; unfold sp_row; split <;> (try split) <;> first | rfl | (exfalso; omega)), trivial⟩, hS.F ht⟩) hS.2.2 dX11_row_23
  · have ic_1 : ¬ (0 ≤ (4 : Int) ∧ (4 : Int) ≤ 5) := c_1
    exact absurd True.intro (by omega)
set_option maxHeartbeats 4000000 in
set_option maxRecDepth 100000 in
theorem c_row_5 (l : Launch) (dC : Nat → ClassId) (dI : Nat → Nat → Nat) (cy : Nat → ClassId) (h0 : Nat) (a0 : Nat) (a1 : Nat) (a2 : Nat) (a3 : Nat) (a4 : Nat) (a5 : Nat) (a7 : Nat) (a8 : Nat) (a9 : Nat) (a10 : Nat) (a11 : Nat) (a12 : Nat) (r0 : Nat) (r1 : Nat) (r2 : Nat) (r3 : Nat) (g : Nat → Nat) (p0 : Int32) (p1 : Int32) (sz : Nat)  : Met l yX11_row wsX11_row ({ frames := 3, cells := 0, slots := 0, locals := 70 }) (va_Pc [.ref h0, .int 5, .int p0, .int p1] (wPre (dC, dI) cy [(h0, .inr (11, [.ref a0, .ref a1, .ref a2, .ref a3, .ref a4, .ref a5, .int 0, .ref a7, .ref a8, .ref a9, .ref a10, .ref a11, .ref a12])), (a12, .inr (7, [.ref r0, .ref r1, .ref r2, .ref r3])), (r0, .inl (cy 0, 6, .inl (fun _ => (-1)))), (r1, .inl (cy 0, 6, .inl (fun _ => (-1)))), (r2, .inl (cy 0, 6, .inl (fun _ => 0))), (r3, .inl (cy 7, 6, .inr (.inr (.inr (.inr (fun i => if i < 6 then some (g i) else none)))))), ((g 5), .inl (cy 4, 60, .inr (.inl (fun _ => 0))))] sz)) (va_Qi (fun (r : Int32) (u : Unit) => r = sp_row 5 p0 p1) (fun (u : Unit) t => True) (va_A [(h0, .inr (11, [.ref a0, .ref a1, .ref a2, .ref a3, .ref a4, .ref a5, .int 0, .ref a7, .ref a8, .ref a9, .ref a10, .ref a11, .ref a12])), (a12, .inr (7, [.ref r0, .ref r1, .ref r2, .ref r3])), (r0, .inl (cy 0, 6, .inl (fun _ => (-1)))), (r1, .inl (cy 0, 6, .inl (fun _ => (-1)))), (r2, .inl (cy 0, 6, .inl (fun _ => 0))), (r3, .inl (cy 7, 6, .inr (.inr (.inr (.inr (fun i => if i < 6 then some (g i) else none)))))), ((g 5), .inl (cy 4, 60, .inr (.inl (fun _ => 0))))] sz)) 0 0 (va_A [(h0, .inr (11, [.ref a0, .ref a1, .ref a2, .ref a3, .ref a4, .ref a5, .int 0, .ref a7, .ref a8, .ref a9, .ref a10, .ref a11, .ref a12])), (a12, .inr (7, [.ref r0, .ref r1, .ref r2, .ref r3])), (r0, .inl (cy 0, 6, .inl (fun _ => (-1)))), (r1, .inl (cy 0, 6, .inl (fun _ => (-1)))), (r2, .inl (cy 0, 6, .inl (fun _ => 0))), (r3, .inl (cy 7, 6, .inr (.inr (.inr (.inr (fun i => if i < 6 then some (g i) else none)))))), ((g 5), .inl (cy 4, 60, .inr (.inl (fun _ => 0))))] sz) := by
  refine Met.ofW (cc := cX11_row) (maxL := 4) (ret := (some .int)) (by decide) rfl ?_
  intro p e s m args below meth c s₁ B hml hv
  obtain ⟨rfl, hsz, hP, hK, hD0, hN⟩ := hv
  have hx := B.exec
  have hb := B.bytes
  have hr := B.returns
  have hts := atoms_spec (ws := wsX11_row) B.pre
  have hown : s.vm.findClass RX11 = some m.cls := findClass_of_methodNamed B.named
  have hlocks := B.notSynchronized
  subst hsz
  have hD := hD0.self (sz := s.heap.size)
  generalize hAe : va_A [(h0, .inr (11, [.ref a0, .ref a1, .ref a2, .ref a3, .ref a4, .ref a5, .int 0, .ref a7, .ref a8, .ref a9, .ref a10, .ref a11, .ref a12])), (a12, .inr (7, [.ref r0, .ref r1, .ref r2, .ref r3])), (r0, .inl (cy 0, 6, .inl (fun _ => (-1)))), (r1, .inl (cy 0, 6, .inl (fun _ => (-1)))), (r2, .inl (cy 0, 6, .inl (fun _ => 0))), (r3, .inl (cy 7, 6, .inr (.inr (.inr (.inr (fun i => if i < 6 then some (g i) else none)))))), ((g 5), .inl (cy 4, 60, .inr (.inl (fun _ => 0))))] s.heap.size = A at hD ⊢
  have hA : ∀ q : Nat, s.heap.size ≤ q → A q := fun q h => by rw [← hAe]; exact Or.inr h
  have hS : va_S A s.heap s.heap [] := va_S.rf
  have hl := lv_entry ([.ref h0, .int 5, .int p0, .int p1]) (n := 4) (Nat.le_of_ble_eq_true rfl)
  rw [lg_entry_eq]
  generalize (lg_sl ([.ref h0, .int 5, .int p0, .int p1]) ++ List.replicate (4 - (lg_sl ([.ref h0, .int 5, .int p0, .int p1])).length) Slot.unset).toArray = ls at hl ⊢
  have hl : lv_has ls 4 [(0, .ref h0), (1, .int 5), (2, .int p0), (3, .int p1)] := hl
  refine lv_iload_n hx hb dX11_row_0 rfl (lv_at hl 1 rfl) ?_
  change W _ _ _ _ _ _ _ _ _ _ _ _ _ _ _ (F0 m 1 ls [.int 5])
  have hPc := hP.sub (ws' := []) [] rfl
  have hDc := hD.sub (ws' := []) [] (by decide) rfl
  refine vz_callSi (va_runS (As := [.int 5]) (rest := []) ⟨hx, hb, hml, hown, hts⟩ (c_isShelf l dC dI cy 5 s.heap.size) (va_cwS 1 hts gX11_row_X11_isShelf rfl rfl rfl (by decide +kernel) ⟨Nat.le_of_ble_eq_true rfl, Nat.le_of_ble_eq_true rfl⟩) (wp_S hK hN hPc hDc) rfl rfl hl.1 rfl (lv_room (Nat.le_of_ble_eq_true rfl)) dX11_row_1 ⟨Nat.le_of_ble_eq_true rfl, Nat.le_of_ble_eq_true rfl⟩) (fun r_1 hw_1 => ?_)
  rcases hw_1 with ⟨c_1, hw_1⟩ | ⟨c_1, hw_1⟩ <;> subst hw_1
  · have ic_1 : 0 ≤ (5 : Int) ∧ (5 : Int) ≤ 5 := c_1
    refine lv_if_eq (tgt := 22) hx hb dX11_row_4 (by decide) (fun c_2 => absurd c_2 (by decide)) (fun _ => ?_)
    refine lv_iload_n hx hb dX11_row_7 rfl (lv_at hl 2 rfl) ?_
    refine lv_if_lt (tgt := 22) hx hb dX11_row_8 (by decide) (fun c_3 => ?_) (fun c_3 => ?_)
    · have ic_3 : p0.toInt < (0 : Int) := Int32.lt_iff_toInt_lt.mp c_3
      refine lv_iconst (v := (-1)) hx hb dX11_row_22 (by decide) ?_
      exact W.iret (v := (-1)) hx hb hr (fun t ht hW => ⟨⟨(-1), (), rfl, (by have e9 : (5 : Int32).toInt = 5 := rfl; unfold sp_row; split <;> (try split) <;> first | rfl | (exfalso; omega)), trivial⟩, hS.F ht⟩) hS.2.2 dX11_row_23
    · have ic_3 : ¬ p0.toInt < (0 : Int) := fun h9 => c_3 (Int32.lt_iff_toInt_lt.mpr h9)
      refine lv_iload_n hx hb dX11_row_11 rfl (lv_at hl 2 rfl) ?_
      refine lv_iconst (v := 4) hx hb dX11_row_12 (by decide) ?_
      refine lv_icmp_gt (tgt := 22) hx hb dX11_row_13 (by decide) (fun c_4 => ?_) (fun c_4 => ?_)
      · have ic_4 : (4 : Int) < p0.toInt := Int32.lt_iff_toInt_lt.mp c_4
        refine lv_iconst (v := (-1)) hx hb dX11_row_22 (by decide) ?_
        exact W.iret (v := (-1)) hx hb hr (fun t ht hW => ⟨⟨(-1), (), rfl, (by have e9 : (5 : Int32).toInt = 5 := rfl; unfold sp_row; split <;> (try split) <;> first | rfl | (exfalso; omega)), trivial⟩, hS.F ht⟩) hS.2.2 dX11_row_23
      · have ic_4 : ¬ (4 : Int) < p0.toInt := fun h9 => c_4 (Int32.lt_iff_toInt_lt.mpr h9)
        refine lv_iload_n hx hb dX11_row_16 rfl (lv_at hl 3 rfl) ?_
        refine lv_bipush (v := 60) hx hb dX11_row_17 (by decide) ?_
        change W _ _ _ _ _ _ _ _ _ _ _ _ _ _ _ (F0 m 19 ls [.int 60, .int p1])
        refine lv_icmp_le (tgt := 24) hx hb dX11_row_19 (by decide) (fun c_5 => ?_) (fun c_5 => ?_)
        · have ic_5 : p1.toInt ≤ (60 : Int) := Int32.le_iff_toInt_le.mp c_5
          refine lv_iload_n hx hb dX11_row_24 rfl (lv_at hl 3 rfl) ?_
          refine lv_if_ge (tgt := 31) hx hb dX11_row_25 (by decide) (fun c_6 => ?_) (fun c_6 => ?_)
          · have ic_6 : (0 : Int) ≤ p1.toInt := Int32.le_iff_toInt_le.mp c_6
            refine lv_aload_n hx hb dX11_row_31 rfl (lv_at hl 0 rfl) ?_
            refine va_get (D := (dC, dI)) (ci := 11) (v := .ref a12) (C := RX11) (T := TX11) (N := 13) hx hb hts (fun _ h9 => List.mem_cons_of_mem _ (List.mem_append_left _ (List.mem_append_right _ h9))) hown hK hP 0 rfl rfl 12 (by decide) (hts (.fieldLink RX11 98 "SeatsRound" "rows" "LSeatsRound$Rows;") (List.mem_of_getElem? (i := 1) rfl)) (fun _ h9 => h9) rfl dX11_row_32 ?_
            refine lv_iload_n hx hb dX11_row_35 rfl (lv_at hl 1 rfl) ?_
            refine lv_iload_n hx hb dX11_row_36 rfl (lv_at hl 2 rfl) ?_
            refine lv_iload_n hx hb dX11_row_37 rfl (lv_at hl 3 rfl) ?_
            have hPc := hP.sub (ws' := [(a12, .inr (7, [.ref r0, .ref r1, .ref r2, .ref r3])), (r0, .inl (cy 0, 6, .inl (fun _ => (-1)))), (r1, .inl (cy 0, 6, .inl (fun _ => (-1)))), (r2, .inl (cy 0, 6, .inl (fun _ => 0))), (r3, .inl (cy 7, 6, .inr (.inr (.inr (.inr (fun i => if i < 6 then some (g i) else none)))))), ((g 5), .inl (cy 4, 60, .inr (.inl (fun _ => 0))))]) [1, 2, 3, 4, 5, 6] rfl
            have hDc := hD.sub (ws' := [(a12, .inr (7, [.ref r0, .ref r1, .ref r2, .ref r3])), (r0, .inl (cy 0, 6, .inl (fun _ => (-1)))), (r1, .inl (cy 0, 6, .inl (fun _ => (-1)))), (r2, .inl (cy 0, 6, .inl (fun _ => 0))), (r3, .inl (cy 7, 6, .inr (.inr (.inr (.inr (fun i => if i < 6 then some (g i) else none)))))), ((g 5), .inl (cy 4, 60, .inr (.inl (fun _ => 0))))]) [1, 2, 3, 4, 5, 6] (by decide) rfl
            have hFc := va_free (wc := [(a12, .inr (7, [.ref r0, .ref r1, .ref r2, .ref r3])), (r0, .inl (cy 0, 6, .inl (fun _ => (-1)))), (r1, .inl (cy 0, 6, .inl (fun _ => (-1)))), (r2, .inl (cy 0, 6, .inl (fun _ => 0))), (r3, .inl (cy 7, 6, .inr (.inr (.inr (.inr (fun i => if i < 6 then some (g i) else none)))))), ((g 5), .inl (cy 4, 60, .inr (.inl (fun _ => 0))))]) hD hS hA [1, 2, 3, 4, 5, 6] rfl
            refine va_callv (va_runV (As := [.int 5, .int p0, .int p1]) (rest := []) ⟨hx, hb, hml, hown, hts⟩ (c_RW_holdRow_5 l dC dI cy a12 r0 r1 r2 r3 g p0 p1 s.heap.size) (cwV 3 hts gX11_row_X7_holdRow rfl rfl rfl (by decide +kernel) ⟨Nat.le_of_ble_eq_true rfl, Nat.le_of_ble_eq_true rfl⟩) (wp_V hK hN hPc hDc (va_recv hK hPc (ci := 7) (q0 := 0) rfl rfl)) rfl rfl hl.1 rfl (lv_room (Nat.le_of_ble_eq_true rfl)) dX11_row_38 ⟨Nat.le_of_ble_eq_true rfl, Nat.le_of_ble_eq_true rfl⟩) hS (fun q _ h => hFc q h) hFc (fun u_7 t H1 locs ht hvm hw_7 hB hz1 hk1 hS => ?_)
            have hP1 : va_P (dC, dI) vwCl [] H1 := fun k q h => by simp at h
            have hD1 : va_D (va_A [(a12, .inr (7, [.ref r0, .ref r1, .ref r2, .ref r3])), (r0, .inl (cy 0, 6, .inl (fun _ => (-1)))), (r1, .inl (cy 0, 6, .inl (fun _ => (-1)))), (r2, .inl (cy 0, 6, .inl (fun _ => 0))), (r3, .inl (cy 7, 6, .inr (.inr (.inr (.inr (fun i => if i < 6 then some (g i) else none)))))), ((g 5), .inl (cy 4, 60, .inr (.inl (fun _ => 0))))] s.heap.size) [] := ⟨fun i j p q h => by simp at h, fun k q h => by simp at h⟩
            obtain ⟨hP, hD⟩ := va_join (wr := [(h0, .inr (11, [.ref a0, .ref a1, .ref a2, .ref a3, .ref a4, .ref a5, .int 0, .ref a7, .ref a8, .ref a9, .ref a10, .ref a11, .ref a12]))]) (w1 := []) hP hD [1, 2, 3, 4, 5, 6] [0] rfl rfl (by decide) (by decide) hk1 hFc hP1 hD1
            generalize H1 = H at hP hS ⊢
            have hP : va_P (dC, dI) vwCl [(h0, .inr (11, [.ref a0, .ref a1, .ref a2, .ref a3, .ref a4, .ref a5, .int 0, .ref a7, .ref a8, .ref a9, .ref a10, .ref a11, .ref a12]))] H := hP
            have hD : va_D A [(h0, .inr (11, [.ref a0, .ref a1, .ref a2, .ref a3, .ref a4, .ref a5, .int 0, .ref a7, .ref a8, .ref a9, .ref a10, .ref a11, .ref a12]))] := hD
            refine lv_iconst (v := 1) hx hb dX11_row_41 (by decide) ?_
            change W _ _ _ _ _ _ _ _ _ _ _ _ _ _ _ (F0 m 42 ls [.int 1])
            exact W.iret (v := 1) hx hb hr (fun t ht hW => ⟨⟨1, (), rfl, (by have e9 : (5 : Int32).toInt = 5 := rfl; unfold sp_row; split <;> (try split) <;> first | rfl | (exfalso; omega)), trivial⟩, hS.F ht⟩) hS.2.2 dX11_row_42
          · have ic_6 : ¬ (0 : Int) ≤ p1.toInt := fun h9 => c_6 (Int32.le_iff_toInt_le.mpr h9)
            refine lv_bipush (v := (-14)) hx hb dX11_row_28 (by decide) ?_
            exact W.iret (v := (-14)) hx hb hr (fun t ht hW => ⟨⟨(-14), (), rfl, (by have e9 : (5 : Int32).toInt = 5 := rfl; unfold sp_row; split <;> (try split) <;> first | rfl | (exfalso; omega)), trivial⟩, hS.F ht⟩) hS.2.2 dX11_row_30
        · have ic_5 : ¬ p1.toInt ≤ (60 : Int) := fun h9 => c_5 (Int32.le_iff_toInt_le.mpr h9)
          refine lv_iconst (v := (-1)) hx hb dX11_row_22 (by decide) ?_
          exact W.iret (v := (-1)) hx hb hr (fun t ht hW => ⟨⟨(-1), (), rfl, (by have e9 : (5 : Int32).toInt = 5 := rfl; unfold sp_row; split <;> (try split) <;> first | rfl | (exfalso; omega)), trivial⟩, hS.F ht⟩) hS.2.2 dX11_row_23
  · have ic_1 : ¬ (0 ≤ (5 : Int) ∧ (5 : Int) ≤ 5) := c_1
    exact absurd True.intro (by omega)
