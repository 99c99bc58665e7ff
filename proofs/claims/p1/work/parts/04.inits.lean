set_option maxHeartbeats 4000000 in
set_option maxRecDepth 100000 in
theorem c_Tape_init (l : Launch) (dC : Nat → ClassId) (dI : Nat → Nat → Nat) (cy : Nat → ClassId) (h0 : Nat) (sz : Nat)  : Met l yX9_init wsX9_init ({ frames := 1, cells := 1, slots := 80, locals := 23 }) (va_Pc [.ref h0] (wPre (dC, dI) cy [(h0, .inr (9, [.null, .int 0]))] sz)) (va_Qv (fun (u : Nat → Nat) => True) (fun (u : Nat → Nat) t => wAt (dC, dI) (va_A [(h0, .inr (9, [.null, .int 0]))] sz) [(h0, .inr (9, [.ref (u 0), .int 0])), ((u 0), .inl (cy 1, 80, .inl (fun _ => 0)))] t) (va_A [(h0, .inr (9, [.null, .int 0]))] sz)) 1 80 (va_A [(h0, .inr (9, [.null, .int 0]))] sz) := by
  refine Met.ofW (cc := cX9_init) (maxL := 1) (ret := none) (by decide) rfl ?_
  intro p e s m args below meth c s₁ B hml hv
  obtain ⟨rfl, hsz, hP, hK, hD0, hN⟩ := hv
  have hx := B.exec
  have hb := B.bytes
  have hr := B.returns
  have hts := atoms_spec (ws := wsX9_init) B.pre
  have hown : s.vm.findClass RX9 = some m.cls := findClass_of_methodNamed B.named
  have hlocks := B.notSynchronized
  subst hsz
  have hin : meth.name = "<init>" := (name_of_methodNamed B.named B.method).1
  have hD := hD0.self (sz := s.heap.size)
  generalize hAe : va_A [(h0, .inr (9, [.null, .int 0]))] s.heap.size = A at hD ⊢
  have hA : ∀ q : Nat, s.heap.size ≤ q → A q := fun q h => by rw [← hAe]; exact Or.inr h
  have hS : va_S A s.heap s.heap [] := va_S.rf
  have hl := lv_entry ([.ref h0]) (n := 1) (Nat.le_of_ble_eq_true rfl)
  rw [lg_entry_eq]
  generalize (lg_sl ([.ref h0]) ++ List.replicate (1 - (lg_sl ([.ref h0])).length) Slot.unset).toArray = ls at hl ⊢
  have hl : lv_has ls 1 [(0, .ref h0)] := hl
  refine lv_aload_n hx hb dX9_init_0 rfl (lv_at hl 0 rfl) ?_
  refine W.objInit hx hb hown (hts (.methodLink RX9 3 objectInit) (List.mem_of_getElem? (i := 1) rfl)) (hts (.instanceMethod objectInit) (List.mem_of_getElem? (i := 2) rfl)) (hts (.code objectInit ⟨#[0xb1]⟩ 1 none) (List.mem_of_getElem? (i := 3) rfl)) rfl (hl.1.trans hml.symm) rfl dX9_init_1 (Nat.le_of_ble_eq_true rfl) (Nat.le_of_ble_eq_true rfl) ?_
  refine lv_aload_n hx hb dX9_init_4 rfl (lv_at hl 0 rfl) ?_
  refine lv_bipush (v := 80) hx hb dX9_init_5 (by decide) ?_
  refine vz_newa (atype := .byte) (ty := .byte) (t0 := 1) (N' := 80) (a0 := (80, .inl (fun _ => 0))) hx hb (hts (.arrayClass .byte) (List.mem_of_getElem? (i := 4) rfl)) rfl rfl hK hP hD hS hA (fun _ => rfl) (by decide) rfl (by decide) (Nat.le_of_ble_eq_true rfl) (Nat.le_of_ble_eq_true rfl) dX9_init_7 (fun q_1 H hP hD hS => ?_)
  have hP : va_P (dC, dI) vwCl [(h0, .inr (9, [.null, .int 0])), (q_1, .inl (cy 1, 80, .inl (fun _ => 0)))] H := hP
  have hD : va_D A [(h0, .inr (9, [.null, .int 0])), (q_1, .inl (cy 1, 80, .inl (fun _ => 0)))] := hD
  refine W.widen (k := 1) (n := 80) (Nat.le_of_ble_eq_true rfl) (Nat.le_of_ble_eq_true rfl) ?_
  refine va_putF (D := (dC, dI)) (ci := 9) (v := .ref q_1) (C := RX9) (T := TX9) (N := 2) hx hb hts (fun _ h9 => List.mem_cons_of_mem _ (List.mem_append_right _ h9)) tyX9 tyX9_ok nmX9 hown hK hP hD hS 0 rfl rfl 0 (by decide) (hts (.fieldLink RX9 9 "SeatsRound$Tape" "bytes" "[B") (List.mem_of_getElem? (i := 5) rfl)) (fun _ h9 => h9) rfl hin rfl (tyX9_ok 0 (by decide)) rfl rfl (Nat.le_of_ble_eq_true rfl) dX9_init_9 (fun H locs hP hD hS => ?_)
  have hP : va_P (dC, dI) vwCl [(h0, .inr (9, [.ref q_1, .int 0])), (q_1, .inl (cy 1, 80, .inl (fun _ => 0)))] H := hP
  have hD : va_D A [(h0, .inr (9, [.ref q_1, .int 0])), (q_1, .inl (cy 1, 80, .inl (fun _ => 0)))] := hD
  refine lv_aload_n hx hb dX9_init_12 rfl (lv_at hl 0 rfl) ?_
  change W _ _ _ _ _ _ _ _ _ _ _ _ _ _ _ (F0 m 13 ls [.ref h0])
  refine lv_iconst (v := 0) hx hb dX9_init_13 (by decide) ?_
  refine va_put (D := (dC, dI)) (ci := 9) (v := .int 0) (C := RX9) (T := TX9) (N := 2) hx hb hts (fun _ h9 => List.mem_cons_of_mem _ (List.mem_append_right _ h9)) tyX9 tyX9_ok nmX9 hown hK hP hD hS 0 rfl rfl 1 (by decide) (hts (.fieldLink RX9 15 "SeatsRound$Tape" "length" "I") (List.mem_of_getElem? (i := 6) rfl)) (fun _ h9 => h9) rfl (tyX9_ok 1 (by decide)) rfl rfl (Nat.le_of_ble_eq_true rfl) dX9_init_14 (fun H locs hP hD hS => ?_)
  have hP : va_P (dC, dI) vwCl [(h0, .inr (9, [.ref q_1, .int 0])), (q_1, .inl (cy 1, 80, .inl (fun _ => 0)))] H := hP
  have hD : va_D A [(h0, .inr (9, [.ref q_1, .int 0])), (q_1, .inl (cy 1, 80, .inl (fun _ => 0)))] := hD
  have hP9 := hP.sub (ws' := [(h0, .inr (9, [.ref q_1, .int 0])), (q_1, .inl (cy 1, 80, .inl (fun _ => 0)))]) [0, 1] rfl
  have hD9 := hD.sub (ws' := [(h0, .inr (9, [.ref q_1, .int 0])), (q_1, .inl (cy 1, 80, .inl (fun _ => 0)))]) [0, 1] (by decide) rfl
  exact W.vret hx hb hr (fun t ht hW => ⟨⟨(fun k => [q_1].getD k 0), rfl, trivial, ⟨by rw [ht]; exact hP9, hD9⟩⟩, hS.F ht⟩) hS.2.2 dX9_init_17
set_option maxHeartbeats 4000000 in
set_option maxRecDepth 100000 in
theorem c_NameList_init (l : Launch) (dC : Nat → ClassId) (dI : Nat → Nat → Nat) (cy : Nat → ClassId) (h0 : Nat) (sz : Nat)  : Met l yX4_init wsX4_init ({ frames := 1, cells := 43, slots := 326, locals := 23 }) (va_Pc [.ref h0] (wPre (dC, dI) cy [(h0, .inr (4, [.null, .null, .null, .int 0]))] sz)) (va_Qv (fun (u : Nat → Nat) => True) (fun (u : Nat → Nat) t => wAt (dC, dI) (va_A [(h0, .inr (4, [.null, .null, .null, .int 0]))] sz) [(h0, .inr (4, [.ref (u 0), .ref (u 1), .ref (u 2), .int 0]))] t) (va_A [(h0, .inr (4, [.null, .null, .null, .int 0]))] sz)) 43 326 (va_A [(h0, .inr (4, [.null, .null, .null, .int 0]))] sz) := by
  refine Met.ofW (cc := cX4_init) (maxL := 1) (ret := none) (by decide) rfl ?_
  intro p e s m args below meth c s₁ B hml hv
  obtain ⟨rfl, hsz, hP, hK, hD0, hN⟩ := hv
  have hx := B.exec
  have hb := B.bytes
  have hr := B.returns
  have hts := atoms_spec (ws := wsX4_init) B.pre
  have hown : s.vm.findClass RX4 = some m.cls := findClass_of_methodNamed B.named
  have hlocks := B.notSynchronized
  subst hsz
  have hin : meth.name = "<init>" := (name_of_methodNamed B.named B.method).1
  have hD := hD0.self (sz := s.heap.size)
  generalize hAe : va_A [(h0, .inr (4, [.null, .null, .null, .int 0]))] s.heap.size = A at hD ⊢
  have hA : ∀ q : Nat, s.heap.size ≤ q → A q := fun q h => by rw [← hAe]; exact Or.inr h
  have hS : va_S A s.heap s.heap [] := va_S.rf
  have hl := lv_entry ([.ref h0]) (n := 1) (Nat.le_of_ble_eq_true rfl)
  rw [lg_entry_eq]
  generalize (lg_sl ([.ref h0]) ++ List.replicate (1 - (lg_sl ([.ref h0])).length) Slot.unset).toArray = ls at hl ⊢
  have hl : lv_has ls 1 [(0, .ref h0)] := hl
  refine lv_aload_n hx hb dX4_init_0 rfl (lv_at hl 0 rfl) ?_
  refine W.objInit hx hb hown (hts (.methodLink RX4 3 objectInit) (List.mem_of_getElem? (i := 1) rfl)) (hts (.instanceMethod objectInit) (List.mem_of_getElem? (i := 2) rfl)) (hts (.code objectInit ⟨#[0xb1]⟩ 1 none) (List.mem_of_getElem? (i := 3) rfl)) rfl (hl.1.trans hml.symm) rfl dX4_init_1 (Nat.le_of_ble_eq_true rfl) (Nat.le_of_ble_eq_true rfl) ?_
  refine lv_aload_n hx hb dX4_init_4 rfl (lv_at hl 0 rfl) ?_
  refine lv_bipush (v := 40) hx hb dX4_init_5 (by decide) ?_
  change W _ _ _ _ _ _ _ _ _ _ _ _ _ _ _ (F0 m 7 ls [.int 40, .ref h0])
  refine lv_bipush (v := 6) hx hb dX4_init_7 (by decide) ?_
  refine vz_mna (t0 := 5) (t1 := 1) (N' := 40) (K' := 6) (z := (6, .inl (fun _ => 0))) (ty := .byte) hx hb hown (hts (.classLink RX4 9 "[[B") (List.mem_of_getElem? (i := 4) rfl)) hN.2.2.1 (hts (.arrayClass .byte) (List.mem_of_getElem? (i := 5) rfl)) rfl (hK.2 1 _ rfl).2 hK hP hD hS hA (by decide) (by decide) rfl rfl (by decide) (by decide) (by decide) rfl rfl (Nat.le_of_ble_eq_true rfl) (Nat.le_of_ble_eq_true rfl) (fun _ => rfl) dX4_init_9 (fun q_1 r_2 H hP hD hS => ?_)
  have hP := va_P.take 2 hP
  have hD := va_D.take 2 hD
  have hP : va_P (dC, dI) vwCl [(h0, .inr (4, [.null, .null, .null, .int 0])), (q_1, .inl (cy 5, 40, .inr (.inr (.inr (.inr (fun i => if i < 40 then some (r_2 i) else none))))))] H := hP
  have hD : va_D A [(h0, .inr (4, [.null, .null, .null, .int 0])), (q_1, .inl (cy 5, 40, .inr (.inr (.inr (.inr (fun i => if i < 40 then some (r_2 i) else none))))))] := hD
  refine W.widen (k := 41) (n := 280) (Nat.le_of_ble_eq_true rfl) (Nat.le_of_ble_eq_true rfl) ?_
  refine va_putF (D := (dC, dI)) (ci := 4) (v := .ref q_1) (C := RX4) (T := TX4) (N := 4) hx hb hts (fun _ h9 => List.mem_cons_of_mem _ (List.mem_append_right _ h9)) tyX4 tyX4_ok nmX4 hown hK hP hD hS 0 rfl rfl 0 (by decide) (hts (.fieldLink RX4 11 "SeatsRound$NameList" "bytes" "[[B") (List.mem_of_getElem? (i := 6) rfl)) (fun _ h9 => h9) rfl hin rfl (tyX4_ok 0 (by decide)) rfl rfl (Nat.le_of_ble_eq_true rfl) dX4_init_13 (fun H locs hP hD hS => ?_)
  have hP : va_P (dC, dI) vwCl [(h0, .inr (4, [.ref q_1, .null, .null, .int 0])), (q_1, .inl (cy 5, 40, .inr (.inr (.inr (.inr (fun i => if i < 40 then some (r_2 i) else none))))))] H := hP
  have hD : va_D A [(h0, .inr (4, [.ref q_1, .null, .null, .int 0])), (q_1, .inl (cy 5, 40, .inr (.inr (.inr (.inr (fun i => if i < 40 then some (r_2 i) else none))))))] := hD
  have hP := hP.sub (ws' := [(h0, .inr (4, [.ref q_1, .null, .null, .int 0]))]) [0] rfl
  have hD := hD.sub (ws' := [(h0, .inr (4, [.ref q_1, .null, .null, .int 0]))]) [0] (by decide) rfl
  refine lv_aload_n hx hb dX4_init_16 rfl (lv_at hl 0 rfl) ?_
  refine lv_bipush (v := 40) hx hb dX4_init_17 (by decide) ?_
  refine vz_newa (atype := .int) (ty := .int) (t0 := 0) (N' := 40) (a0 := (40, .inl (fun _ => 0))) hx hb (hts (.arrayClass .int) (List.mem_of_getElem? (i := 7) rfl)) rfl rfl hK hP hD hS hA (fun _ => rfl) (by decide) rfl (by decide) (Nat.le_of_ble_eq_true rfl) (Nat.le_of_ble_eq_true rfl) dX4_init_19 (fun q_3 H hP hD hS => ?_)
  have hP : va_P (dC, dI) vwCl [(h0, .inr (4, [.ref q_1, .null, .null, .int 0])), (q_3, .inl (cy 0, 40, .inl (fun _ => 0)))] H := hP
  have hD : va_D A [(h0, .inr (4, [.ref q_1, .null, .null, .int 0])), (q_3, .inl (cy 0, 40, .inl (fun _ => 0)))] := hD
  refine W.widen (k := 42) (n := 320) (Nat.le_of_ble_eq_true rfl) (Nat.le_of_ble_eq_true rfl) ?_
  refine va_putF (D := (dC, dI)) (ci := 4) (v := .ref q_3) (C := RX4) (T := TX4) (N := 4) hx hb hts (fun _ h9 => List.mem_cons_of_mem _ (List.mem_append_right _ h9)) tyX4 tyX4_ok nmX4 hown hK hP hD hS 0 rfl rfl 1 (by decide) (hts (.fieldLink RX4 16 "SeatsRound$NameList" "size" "[I") (List.mem_of_getElem? (i := 8) rfl)) (fun _ h9 => h9) rfl hin rfl (tyX4_ok 1 (by decide)) rfl rfl (Nat.le_of_ble_eq_true rfl) dX4_init_21 (fun H locs hP hD hS => ?_)
  have hP : va_P (dC, dI) vwCl [(h0, .inr (4, [.ref q_1, .ref q_3, .null, .int 0])), (q_3, .inl (cy 0, 40, .inl (fun _ => 0)))] H := hP
  have hD : va_D A [(h0, .inr (4, [.ref q_1, .ref q_3, .null, .int 0])), (q_3, .inl (cy 0, 40, .inl (fun _ => 0)))] := hD
  have hP := hP.sub (ws' := [(h0, .inr (4, [.ref q_1, .ref q_3, .null, .int 0]))]) [0] rfl
  have hD := hD.sub (ws' := [(h0, .inr (4, [.ref q_1, .ref q_3, .null, .int 0]))]) [0] (by decide) rfl
  refine lv_aload_n hx hb dX4_init_24 rfl (lv_at hl 0 rfl) ?_
  change W _ _ _ _ _ _ _ _ _ _ _ _ _ _ _ (F0 m 25 ls [.ref h0])
  refine lv_bipush (v := 6) hx hb dX4_init_25 (by decide) ?_
  refine vz_newa (atype := .byte) (ty := .byte) (t0 := 1) (N' := 6) (a0 := (6, .inl (fun _ => 0))) hx hb (hts (.arrayClass .byte) (List.mem_of_getElem? (i := 5) rfl)) rfl rfl hK hP hD hS hA (fun _ => rfl) (by decide) rfl (by decide) (Nat.le_of_ble_eq_true rfl) (Nat.le_of_ble_eq_true rfl) dX4_init_27 (fun q_4 H hP hD hS => ?_)
  have hP : va_P (dC, dI) vwCl [(h0, .inr (4, [.ref q_1, .ref q_3, .null, .int 0])), (q_4, .inl (cy 1, 6, .inl (fun _ => 0)))] H := hP
  have hD : va_D A [(h0, .inr (4, [.ref q_1, .ref q_3, .null, .int 0])), (q_4, .inl (cy 1, 6, .inl (fun _ => 0)))] := hD
  refine W.widen (k := 43) (n := 326) (Nat.le_of_ble_eq_true rfl) (Nat.le_of_ble_eq_true rfl) ?_
  refine va_putF (D := (dC, dI)) (ci := 4) (v := .ref q_4) (C := RX4) (T := TX4) (N := 4) hx hb hts (fun _ h9 => List.mem_cons_of_mem _ (List.mem_append_right _ h9)) tyX4 tyX4_ok nmX4 hown hK hP hD hS 0 rfl rfl 2 (by decide) (hts (.fieldLink RX4 20 "SeatsRound$NameList" "read" "[B") (List.mem_of_getElem? (i := 9) rfl)) (fun _ h9 => h9) rfl hin rfl (tyX4_ok 2 (by decide)) rfl rfl (Nat.le_of_ble_eq_true rfl) dX4_init_29 (fun H locs hP hD hS => ?_)
  have hP : va_P (dC, dI) vwCl [(h0, .inr (4, [.ref q_1, .ref q_3, .ref q_4, .int 0])), (q_4, .inl (cy 1, 6, .inl (fun _ => 0)))] H := hP
  have hD : va_D A [(h0, .inr (4, [.ref q_1, .ref q_3, .ref q_4, .int 0])), (q_4, .inl (cy 1, 6, .inl (fun _ => 0)))] := hD
  have hP := hP.sub (ws' := [(h0, .inr (4, [.ref q_1, .ref q_3, .ref q_4, .int 0]))]) [0] rfl
  have hD := hD.sub (ws' := [(h0, .inr (4, [.ref q_1, .ref q_3, .ref q_4, .int 0]))]) [0] (by decide) rfl
  refine lv_aload_n hx hb dX4_init_32 rfl (lv_at hl 0 rfl) ?_
  refine lv_iconst (v := 0) hx hb dX4_init_33 (by decide) ?_
  refine va_put (D := (dC, dI)) (ci := 4) (v := .int 0) (C := RX4) (T := TX4) (N := 4) hx hb hts (fun _ h9 => List.mem_cons_of_mem _ (List.mem_append_right _ h9)) tyX4 tyX4_ok nmX4 hown hK hP hD hS 0 rfl rfl 3 (by decide) (hts (.fieldLink RX4 24 "SeatsRound$NameList" "count" "I") (List.mem_of_getElem? (i := 10) rfl)) (fun _ h9 => h9) rfl (tyX4_ok 3 (by decide)) rfl rfl (Nat.le_of_ble_eq_true rfl) dX4_init_34 (fun H locs hP hD hS => ?_)
  have hP : va_P (dC, dI) vwCl [(h0, .inr (4, [.ref q_1, .ref q_3, .ref q_4, .int 0]))] H := hP
  have hD : va_D A [(h0, .inr (4, [.ref q_1, .ref q_3, .ref q_4, .int 0]))] := hD
  have hP9 := hP.sub (ws' := [(h0, .inr (4, [.ref q_1, .ref q_3, .ref q_4, .int 0]))]) [0] rfl
  have hD9 := hD.sub (ws' := [(h0, .inr (4, [.ref q_1, .ref q_3, .ref q_4, .int 0]))]) [0] (by decide) rfl
  exact W.vret hx hb hr (fun t ht hW => ⟨⟨(fun k => [q_1, q_3, q_4].getD k 0), rfl, trivial, ⟨by rw [ht]; exact hP9, hD9⟩⟩, hS.F ht⟩) hS.2.2 dX4_init_37
set_option maxHeartbeats 4000000 in
set_option maxRecDepth 100000 in
theorem c_Keepers_init (l : Launch) (dC : Nat → ClassId) (dI : Nat → Nat → Nat) (cy : Nat → ClassId) (h0 : Nat) (sz : Nat)  : Met l yX2_init wsX2_init ({ frames := 1, cells := 5, slots := 60, locals := 23 }) (va_Pc [.ref h0] (wPre (dC, dI) cy [(h0, .inr (2, [.null, .null, .null, .null, .null, .int 0]))] sz)) (va_Qv (fun (u : Nat → Nat) => True) (fun (u : Nat → Nat) t => wAt (dC, dI) (va_A [(h0, .inr (2, [.null, .null, .null, .null, .null, .int 0]))] sz) [(h0, .inr (2, [.ref (u 0), .ref (u 1), .ref (u 2), .ref (u 3), .ref (u 4), .int 0])), ((u 0), .inl (cy 0, 12, .inl (fun _ => 0))), ((u 1), .inl (cy 0, 12, .inl (fun _ => 0))), ((u 2), .inl (cy 0, 12, .inl (fun _ => 0))), ((u 3), .inl (cy 0, 12, .inl (fun _ => 0)))] t) (va_A [(h0, .inr (2, [.null, .null, .null, .null, .null, .int 0]))] sz)) 5 60 (va_A [(h0, .inr (2, [.null, .null, .null, .null, .null, .int 0]))] sz) := by
  refine Met.ofW (cc := cX2_init) (maxL := 1) (ret := none) (by decide) rfl ?_
  intro p e s m args below meth c s₁ B hml hv
  obtain ⟨rfl, hsz, hP, hK, hD0, hN⟩ := hv
  have hx := B.exec
  have hb := B.bytes
  have hr := B.returns
  have hts := atoms_spec (ws := wsX2_init) B.pre
  have hown : s.vm.findClass RX2 = some m.cls := findClass_of_methodNamed B.named
  have hlocks := B.notSynchronized
  subst hsz
  have hin : meth.name = "<init>" := (name_of_methodNamed B.named B.method).1
  have hD := hD0.self (sz := s.heap.size)
  generalize hAe : va_A [(h0, .inr (2, [.null, .null, .null, .null, .null, .int 0]))] s.heap.size = A at hD ⊢
  have hA : ∀ q : Nat, s.heap.size ≤ q → A q := fun q h => by rw [← hAe]; exact Or.inr h
  have hS : va_S A s.heap s.heap [] := va_S.rf
  have hl := lv_entry ([.ref h0]) (n := 1) (Nat.le_of_ble_eq_true rfl)
  rw [lg_entry_eq]
  generalize (lg_sl ([.ref h0]) ++ List.replicate (1 - (lg_sl ([.ref h0])).length) Slot.unset).toArray = ls at hl ⊢
  have hl : lv_has ls 1 [(0, .ref h0)] := hl
  refine lv_aload_n hx hb dX2_init_0 rfl (lv_at hl 0 rfl) ?_
  change W _ _ _ _ _ _ _ _ _ _ _ _ _ _ _ (F0 m 1 ls [.ref h0])
  refine W.objInit hx hb hown (hts (.methodLink RX2 3 objectInit) (List.mem_of_getElem? (i := 1) rfl)) (hts (.instanceMethod objectInit) (List.mem_of_getElem? (i := 2) rfl)) (hts (.code objectInit ⟨#[0xb1]⟩ 1 none) (List.mem_of_getElem? (i := 3) rfl)) rfl (hl.1.trans hml.symm) rfl dX2_init_1 (Nat.le_of_ble_eq_true rfl) (Nat.le_of_ble_eq_true rfl) ?_
  refine lv_aload_n hx hb dX2_init_4 rfl (lv_at hl 0 rfl) ?_
  refine lv_bipush (v := 12) hx hb dX2_init_5 (by decide) ?_
  refine vz_newa (atype := .int) (ty := .int) (t0 := 0) (N' := 12) (a0 := (12, .inl (fun _ => 0))) hx hb (hts (.arrayClass .int) (List.mem_of_getElem? (i := 4) rfl)) rfl rfl hK hP hD hS hA (fun _ => rfl) (by decide) rfl (by decide) (Nat.le_of_ble_eq_true rfl) (Nat.le_of_ble_eq_true rfl) dX2_init_7 (fun q_1 H hP hD hS => ?_)
  have hP : va_P (dC, dI) vwCl [(h0, .inr (2, [.null, .null, .null, .null, .null, .int 0])), (q_1, .inl (cy 0, 12, .inl (fun _ => 0)))] H := hP
  have hD : va_D A [(h0, .inr (2, [.null, .null, .null, .null, .null, .int 0])), (q_1, .inl (cy 0, 12, .inl (fun _ => 0)))] := hD
  refine W.widen (k := 1) (n := 12) (Nat.le_of_ble_eq_true rfl) (Nat.le_of_ble_eq_true rfl) ?_
  refine va_putF (D := (dC, dI)) (ci := 2) (v := .ref q_1) (C := RX2) (T := TX2) (N := 6) hx hb hts (fun _ h9 => List.mem_cons_of_mem _ (List.mem_append_right _ h9)) tyX2 tyX2_ok nmX2 hown hK hP hD hS 0 rfl rfl 0 (by decide) (hts (.fieldLink RX2 9 "SeatsRound$Keepers" "kind" "[I") (List.mem_of_getElem? (i := 5) rfl)) (fun _ h9 => h9) rfl hin rfl (tyX2_ok 0 (by decide)) rfl rfl (Nat.le_of_ble_eq_true rfl) dX2_init_9 (fun H locs hP hD hS => ?_)
  have hP : va_P (dC, dI) vwCl [(h0, .inr (2, [.ref q_1, .null, .null, .null, .null, .int 0])), (q_1, .inl (cy 0, 12, .inl (fun _ => 0)))] H := hP
  have hD : va_D A [(h0, .inr (2, [.ref q_1, .null, .null, .null, .null, .int 0])), (q_1, .inl (cy 0, 12, .inl (fun _ => 0)))] := hD
  refine lv_aload_n hx hb dX2_init_12 rfl (lv_at hl 0 rfl) ?_
  refine lv_bipush (v := 12) hx hb dX2_init_13 (by decide) ?_
  refine vz_newa (atype := .int) (ty := .int) (t0 := 0) (N' := 12) (a0 := (12, .inl (fun _ => 0))) hx hb (hts (.arrayClass .int) (List.mem_of_getElem? (i := 4) rfl)) rfl rfl hK hP hD hS hA (fun _ => rfl) (by decide) rfl (by decide) (Nat.le_of_ble_eq_true rfl) (Nat.le_of_ble_eq_true rfl) dX2_init_15 (fun q_2 H hP hD hS => ?_)
  have hP : va_P (dC, dI) vwCl [(h0, .inr (2, [.ref q_1, .null, .null, .null, .null, .int 0])), (q_1, .inl (cy 0, 12, .inl (fun _ => 0))), (q_2, .inl (cy 0, 12, .inl (fun _ => 0)))] H := hP
  have hD : va_D A [(h0, .inr (2, [.ref q_1, .null, .null, .null, .null, .int 0])), (q_1, .inl (cy 0, 12, .inl (fun _ => 0))), (q_2, .inl (cy 0, 12, .inl (fun _ => 0)))] := hD
  refine W.widen (k := 2) (n := 24) (Nat.le_of_ble_eq_true rfl) (Nat.le_of_ble_eq_true rfl) ?_
  change W _ _ _ _ _ _ _ _ _ _ _ _ _ _ _ (F0 m 17 ls [.ref q_2, .ref h0])
  refine va_putF (D := (dC, dI)) (ci := 2) (v := .ref q_2) (C := RX2) (T := TX2) (N := 6) hx hb hts (fun _ h9 => List.mem_cons_of_mem _ (List.mem_append_right _ h9)) tyX2 tyX2_ok nmX2 hown hK hP hD hS 0 rfl rfl 1 (by decide) (hts (.fieldLink RX2 15 "SeatsRound$Keepers" "street" "[I") (List.mem_of_getElem? (i := 6) rfl)) (fun _ h9 => h9) rfl hin rfl (tyX2_ok 1 (by decide)) rfl rfl (Nat.le_of_ble_eq_true rfl) dX2_init_17 (fun H locs hP hD hS => ?_)
  have hP : va_P (dC, dI) vwCl [(h0, .inr (2, [.ref q_1, .ref q_2, .null, .null, .null, .int 0])), (q_1, .inl (cy 0, 12, .inl (fun _ => 0))), (q_2, .inl (cy 0, 12, .inl (fun _ => 0)))] H := hP
  have hD : va_D A [(h0, .inr (2, [.ref q_1, .ref q_2, .null, .null, .null, .int 0])), (q_1, .inl (cy 0, 12, .inl (fun _ => 0))), (q_2, .inl (cy 0, 12, .inl (fun _ => 0)))] := hD
  refine lv_aload_n hx hb dX2_init_20 rfl (lv_at hl 0 rfl) ?_
  refine lv_bipush (v := 12) hx hb dX2_init_21 (by decide) ?_
  refine vz_newa (atype := .int) (ty := .int) (t0 := 0) (N' := 12) (a0 := (12, .inl (fun _ => 0))) hx hb (hts (.arrayClass .int) (List.mem_of_getElem? (i := 4) rfl)) rfl rfl hK hP hD hS hA (fun _ => rfl) (by decide) rfl (by decide) (Nat.le_of_ble_eq_true rfl) (Nat.le_of_ble_eq_true rfl) dX2_init_23 (fun q_3 H hP hD hS => ?_)
  have hP : va_P (dC, dI) vwCl [(h0, .inr (2, [.ref q_1, .ref q_2, .null, .null, .null, .int 0])), (q_1, .inl (cy 0, 12, .inl (fun _ => 0))), (q_2, .inl (cy 0, 12, .inl (fun _ => 0))), (q_3, .inl (cy 0, 12, .inl (fun _ => 0)))] H := hP
  have hD : va_D A [(h0, .inr (2, [.ref q_1, .ref q_2, .null, .null, .null, .int 0])), (q_1, .inl (cy 0, 12, .inl (fun _ => 0))), (q_2, .inl (cy 0, 12, .inl (fun _ => 0))), (q_3, .inl (cy 0, 12, .inl (fun _ => 0)))] := hD
  refine W.widen (k := 3) (n := 36) (Nat.le_of_ble_eq_true rfl) (Nat.le_of_ble_eq_true rfl) ?_
  refine va_putF (D := (dC, dI)) (ci := 2) (v := .ref q_3) (C := RX2) (T := TX2) (N := 6) hx hb hts (fun _ h9 => List.mem_cons_of_mem _ (List.mem_append_right _ h9)) tyX2 tyX2_ok nmX2 hown hK hP hD hS 0 rfl rfl 2 (by decide) (hts (.fieldLink RX2 18 "SeatsRound$Keepers" "strength" "[I") (List.mem_of_getElem? (i := 7) rfl)) (fun _ h9 => h9) rfl hin rfl (tyX2_ok 2 (by decide)) rfl rfl (Nat.le_of_ble_eq_true rfl) dX2_init_25 (fun H locs hP hD hS => ?_)
  have hP : va_P (dC, dI) vwCl [(h0, .inr (2, [.ref q_1, .ref q_2, .ref q_3, .null, .null, .int 0])), (q_1, .inl (cy 0, 12, .inl (fun _ => 0))), (q_2, .inl (cy 0, 12, .inl (fun _ => 0))), (q_3, .inl (cy 0, 12, .inl (fun _ => 0)))] H := hP
  have hD : va_D A [(h0, .inr (2, [.ref q_1, .ref q_2, .ref q_3, .null, .null, .int 0])), (q_1, .inl (cy 0, 12, .inl (fun _ => 0))), (q_2, .inl (cy 0, 12, .inl (fun _ => 0))), (q_3, .inl (cy 0, 12, .inl (fun _ => 0)))] := hD
  refine lv_aload_n hx hb dX2_init_28 rfl (lv_at hl 0 rfl) ?_
  refine lv_bipush (v := 12) hx hb dX2_init_29 (by decide) ?_
  refine vz_newa (atype := .int) (ty := .int) (t0 := 0) (N' := 12) (a0 := (12, .inl (fun _ => 0))) hx hb (hts (.arrayClass .int) (List.mem_of_getElem? (i := 4) rfl)) rfl rfl hK hP hD hS hA (fun _ => rfl) (by decide) rfl (by decide) (Nat.le_of_ble_eq_true rfl) (Nat.le_of_ble_eq_true rfl) dX2_init_31 (fun q_4 H hP hD hS => ?_)
  have hP : va_P (dC, dI) vwCl [(h0, .inr (2, [.ref q_1, .ref q_2, .ref q_3, .null, .null, .int 0])), (q_1, .inl (cy 0, 12, .inl (fun _ => 0))), (q_2, .inl (cy 0, 12, .inl (fun _ => 0))), (q_3, .inl (cy 0, 12, .inl (fun _ => 0))), (q_4, .inl (cy 0, 12, .inl (fun _ => 0)))] H := hP
  have hD : va_D A [(h0, .inr (2, [.ref q_1, .ref q_2, .ref q_3, .null, .null, .int 0])), (q_1, .inl (cy 0, 12, .inl (fun _ => 0))), (q_2, .inl (cy 0, 12, .inl (fun _ => 0))), (q_3, .inl (cy 0, 12, .inl (fun _ => 0))), (q_4, .inl (cy 0, 12, .inl (fun _ => 0)))] := hD
  refine W.widen (k := 4) (n := 48) (Nat.le_of_ble_eq_true rfl) (Nat.le_of_ble_eq_true rfl) ?_
  change W _ _ _ _ _ _ _ _ _ _ _ _ _ _ _ (F0 m 33 ls [.ref q_4, .ref h0])
  refine va_putF (D := (dC, dI)) (ci := 2) (v := .ref q_4) (C := RX2) (T := TX2) (N := 6) hx hb hts (fun _ h9 => List.mem_cons_of_mem _ (List.mem_append_right _ h9)) tyX2 tyX2_ok nmX2 hown hK hP hD hS 0 rfl rfl 3 (by decide) (hts (.fieldLink RX2 21 "SeatsRound$Keepers" "table" "[I") (List.mem_of_getElem? (i := 8) rfl)) (fun _ h9 => h9) rfl hin rfl (tyX2_ok 3 (by decide)) rfl rfl (Nat.le_of_ble_eq_true rfl) dX2_init_33 (fun H locs hP hD hS => ?_)
  have hP : va_P (dC, dI) vwCl [(h0, .inr (2, [.ref q_1, .ref q_2, .ref q_3, .ref q_4, .null, .int 0])), (q_1, .inl (cy 0, 12, .inl (fun _ => 0))), (q_2, .inl (cy 0, 12, .inl (fun _ => 0))), (q_3, .inl (cy 0, 12, .inl (fun _ => 0))), (q_4, .inl (cy 0, 12, .inl (fun _ => 0)))] H := hP
  have hD : va_D A [(h0, .inr (2, [.ref q_1, .ref q_2, .ref q_3, .ref q_4, .null, .int 0])), (q_1, .inl (cy 0, 12, .inl (fun _ => 0))), (q_2, .inl (cy 0, 12, .inl (fun _ => 0))), (q_3, .inl (cy 0, 12, .inl (fun _ => 0))), (q_4, .inl (cy 0, 12, .inl (fun _ => 0)))] := hD
  refine lv_aload_n hx hb dX2_init_36 rfl (lv_at hl 0 rfl) ?_
  refine lv_bipush (v := 12) hx hb dX2_init_37 (by decide) ?_
  refine vz_newa (atype := .boolean) (ty := .boolean) (t0 := 2) (N' := 12) (a0 := (12, .inl (fun _ => 0))) hx hb (hts (.arrayClass .boolean) (List.mem_of_getElem? (i := 9) rfl)) rfl rfl hK hP hD hS hA (fun _ => rfl) (by decide) rfl (by decide) (Nat.le_of_ble_eq_true rfl) (Nat.le_of_ble_eq_true rfl) dX2_init_39 (fun q_5 H hP hD hS => ?_)
  have hP : va_P (dC, dI) vwCl [(h0, .inr (2, [.ref q_1, .ref q_2, .ref q_3, .ref q_4, .null, .int 0])), (q_1, .inl (cy 0, 12, .inl (fun _ => 0))), (q_2, .inl (cy 0, 12, .inl (fun _ => 0))), (q_3, .inl (cy 0, 12, .inl (fun _ => 0))), (q_4, .inl (cy 0, 12, .inl (fun _ => 0))), (q_5, .inl (cy 2, 12, .inl (fun _ => 0)))] H := hP
  have hD : va_D A [(h0, .inr (2, [.ref q_1, .ref q_2, .ref q_3, .ref q_4, .null, .int 0])), (q_1, .inl (cy 0, 12, .inl (fun _ => 0))), (q_2, .inl (cy 0, 12, .inl (fun _ => 0))), (q_3, .inl (cy 0, 12, .inl (fun _ => 0))), (q_4, .inl (cy 0, 12, .inl (fun _ => 0))), (q_5, .inl (cy 2, 12, .inl (fun _ => 0)))] := hD
  refine W.widen (k := 5) (n := 60) (Nat.le_of_ble_eq_true rfl) (Nat.le_of_ble_eq_true rfl) ?_
  refine va_putF (D := (dC, dI)) (ci := 2) (v := .ref q_5) (C := RX2) (T := TX2) (N := 6) hx hb hts (fun _ h9 => List.mem_cons_of_mem _ (List.mem_append_right _ h9)) tyX2 tyX2_ok nmX2 hown hK hP hD hS 0 rfl rfl 4 (by decide) (hts (.fieldLink RX2 24 "SeatsRound$Keepers" "fallen" "[Z") (List.mem_of_getElem? (i := 10) rfl)) (fun _ h9 => h9) rfl hin rfl (tyX2_ok 4 (by decide)) rfl rfl (Nat.le_of_ble_eq_true rfl) dX2_init_41 (fun H locs hP hD hS => ?_)
  have hP : va_P (dC, dI) vwCl [(h0, .inr (2, [.ref q_1, .ref q_2, .ref q_3, .ref q_4, .ref q_5, .int 0])), (q_1, .inl (cy 0, 12, .inl (fun _ => 0))), (q_2, .inl (cy 0, 12, .inl (fun _ => 0))), (q_3, .inl (cy 0, 12, .inl (fun _ => 0))), (q_4, .inl (cy 0, 12, .inl (fun _ => 0))), (q_5, .inl (cy 2, 12, .inl (fun _ => 0)))] H := hP
  have hD : va_D A [(h0, .inr (2, [.ref q_1, .ref q_2, .ref q_3, .ref q_4, .ref q_5, .int 0])), (q_1, .inl (cy 0, 12, .inl (fun _ => 0))), (q_2, .inl (cy 0, 12, .inl (fun _ => 0))), (q_3, .inl (cy 0, 12, .inl (fun _ => 0))), (q_4, .inl (cy 0, 12, .inl (fun _ => 0))), (q_5, .inl (cy 2, 12, .inl (fun _ => 0)))] := hD
  have hP := hP.sub (ws' := [(h0, .inr (2, [.ref q_1, .ref q_2, .ref q_3, .ref q_4, .ref q_5, .int 0])), (q_1, .inl (cy 0, 12, .inl (fun _ => 0))), (q_2, .inl (cy 0, 12, .inl (fun _ => 0))), (q_3, .inl (cy 0, 12, .inl (fun _ => 0))), (q_4, .inl (cy 0, 12, .inl (fun _ => 0)))]) [0, 1, 2, 3, 4] rfl
  have hD := hD.sub (ws' := [(h0, .inr (2, [.ref q_1, .ref q_2, .ref q_3, .ref q_4, .ref q_5, .int 0])), (q_1, .inl (cy 0, 12, .inl (fun _ => 0))), (q_2, .inl (cy 0, 12, .inl (fun _ => 0))), (q_3, .inl (cy 0, 12, .inl (fun _ => 0))), (q_4, .inl (cy 0, 12, .inl (fun _ => 0)))]) [0, 1, 2, 3, 4] (by decide) rfl
  refine lv_aload_n hx hb dX2_init_44 rfl (lv_at hl 0 rfl) ?_
  refine lv_iconst (v := 0) hx hb dX2_init_45 (by decide) ?_
  refine va_put (D := (dC, dI)) (ci := 2) (v := .int 0) (C := RX2) (T := TX2) (N := 6) hx hb hts (fun _ h9 => List.mem_cons_of_mem _ (List.mem_append_right _ h9)) tyX2 tyX2_ok nmX2 hown hK hP hD hS 0 rfl rfl 5 (by decide) (hts (.fieldLink RX2 28 "SeatsRound$Keepers" "count" "I") (List.mem_of_getElem? (i := 11) rfl)) (fun _ h9 => h9) rfl (tyX2_ok 5 (by decide)) rfl rfl (Nat.le_of_ble_eq_true rfl) dX2_init_46 (fun H locs hP hD hS => ?_)
  have hP : va_P (dC, dI) vwCl [(h0, .inr (2, [.ref q_1, .ref q_2, .ref q_3, .ref q_4, .ref q_5, .int 0])), (q_1, .inl (cy 0, 12, .inl (fun _ => 0))), (q_2, .inl (cy 0, 12, .inl (fun _ => 0))), (q_3, .inl (cy 0, 12, .inl (fun _ => 0))), (q_4, .inl (cy 0, 12, .inl (fun _ => 0)))] H := hP
  have hD : va_D A [(h0, .inr (2, [.ref q_1, .ref q_2, .ref q_3, .ref q_4, .ref q_5, .int 0])), (q_1, .inl (cy 0, 12, .inl (fun _ => 0))), (q_2, .inl (cy 0, 12, .inl (fun _ => 0))), (q_3, .inl (cy 0, 12, .inl (fun _ => 0))), (q_4, .inl (cy 0, 12, .inl (fun _ => 0)))] := hD
  change W _ _ _ _ _ _ _ _ _ _ _ _ _ _ _ (F0 m 49 ls [])
  have hP9 := hP.sub (ws' := [(h0, .inr (2, [.ref q_1, .ref q_2, .ref q_3, .ref q_4, .ref q_5, .int 0])), (q_1, .inl (cy 0, 12, .inl (fun _ => 0))), (q_2, .inl (cy 0, 12, .inl (fun _ => 0))), (q_3, .inl (cy 0, 12, .inl (fun _ => 0))), (q_4, .inl (cy 0, 12, .inl (fun _ => 0)))]) [0, 1, 2, 3, 4] rfl
  have hD9 := hD.sub (ws' := [(h0, .inr (2, [.ref q_1, .ref q_2, .ref q_3, .ref q_4, .ref q_5, .int 0])), (q_1, .inl (cy 0, 12, .inl (fun _ => 0))), (q_2, .inl (cy 0, 12, .inl (fun _ => 0))), (q_3, .inl (cy 0, 12, .inl (fun _ => 0))), (q_4, .inl (cy 0, 12, .inl (fun _ => 0)))]) [0, 1, 2, 3, 4] (by decide) rfl
  exact W.vret hx hb hr (fun t ht hW => ⟨⟨(fun k => [q_1, q_2, q_3, q_4, q_5].getD k 0), rfl, trivial, ⟨by rw [ht]; exact hP9, hD9⟩⟩, hS.F ht⟩) hS.2.2 dX2_init_49
set_option maxHeartbeats 4000000 in
set_option maxRecDepth 100000 in
theorem c_Law_init (l : Launch) (dC : Nat → ClassId) (dI : Nat → Nat → Nat) (cy : Nat → ClassId) (h0 : Nat) (sz : Nat)  : Met l yX3_init wsX3_init ({ frames := 1, cells := 1, slots := 0, locals := 23 }) (va_Pc [.ref h0] (wPre (dC, dI) cy [(h0, .inr (3, [.null, .int 0, .int 0, .int 0, .int 0, .int 0, .int 0, .int 0]))] sz)) (va_Qv (fun (u : Nat → Nat) => True) (fun (u : Nat → Nat) t => wAt (dC, dI) (va_A [(h0, .inr (3, [.null, .int 0, .int 0, .int 0, .int 0, .int 0, .int 0, .int 0]))] sz) [] t) (va_A [(h0, .inr (3, [.null, .int 0, .int 0, .int 0, .int 0, .int 0, .int 0, .int 0]))] sz)) 1 0 (va_A [(h0, .inr (3, [.null, .int 0, .int 0, .int 0, .int 0, .int 0, .int 0, .int 0]))] sz) := by
  refine Met.ofW (cc := cX3_init) (maxL := 1) (ret := none) (by decide) rfl ?_
  intro p e s m args below meth c s₁ B hml hv
  obtain ⟨rfl, hsz, hP, hK, hD0, hN⟩ := hv
  have hx := B.exec
  have hb := B.bytes
  have hr := B.returns
  have hts := atoms_spec (ws := wsX3_init) B.pre
  have hown : s.vm.findClass RX3 = some m.cls := findClass_of_methodNamed B.named
  have hlocks := B.notSynchronized
  subst hsz
  have hin : meth.name = "<init>" := (name_of_methodNamed B.named B.method).1
  have hD := hD0.self (sz := s.heap.size)
  generalize hAe : va_A [(h0, .inr (3, [.null, .int 0, .int 0, .int 0, .int 0, .int 0, .int 0, .int 0]))] s.heap.size = A at hD ⊢
  have hA : ∀ q : Nat, s.heap.size ≤ q → A q := fun q h => by rw [← hAe]; exact Or.inr h
  have hS : va_S A s.heap s.heap [] := va_S.rf
  have hl := lv_entry ([.ref h0]) (n := 1) (Nat.le_of_ble_eq_true rfl)
  rw [lg_entry_eq]
  generalize (lg_sl ([.ref h0]) ++ List.replicate (1 - (lg_sl ([.ref h0])).length) Slot.unset).toArray = ls at hl ⊢
  have hl : lv_has ls 1 [(0, .ref h0)] := hl
  refine lv_aload_n hx hb dX3_init_0 rfl (lv_at hl 0 rfl) ?_
  refine W.objInit hx hb hown (hts (.methodLink RX3 3 objectInit) (List.mem_of_getElem? (i := 1) rfl)) (hts (.instanceMethod objectInit) (List.mem_of_getElem? (i := 2) rfl)) (hts (.code objectInit ⟨#[0xb1]⟩ 1 none) (List.mem_of_getElem? (i := 3) rfl)) rfl (hl.1.trans hml.symm) rfl dX3_init_1 (Nat.le_of_ble_eq_true rfl) (Nat.le_of_ble_eq_true rfl) ?_
  refine lv_aload_n hx hb dX3_init_4 rfl (lv_at hl 0 rfl) ?_
  refine lv_iconst (v := 0) hx hb dX3_init_5 (by decide) ?_
  refine vz_newa (atype := .byte) (ty := .byte) (t0 := 1) (N' := 0) (a0 := (0, .inl (fun _ => 0))) hx hb (hts (.arrayClass .byte) (List.mem_of_getElem? (i := 4) rfl)) rfl rfl hK hP hD hS hA (fun _ => rfl) (by decide) rfl (by decide) (Nat.le_of_ble_eq_true rfl) (Nat.le_of_ble_eq_true rfl) dX3_init_6 (fun q_1 H hP hD hS => ?_)
  have hP : va_P (dC, dI) vwCl [(h0, .inr (3, [.null, .int 0, .int 0, .int 0, .int 0, .int 0, .int 0, .int 0])), (q_1, .inl (cy 1, 0, .inl (fun _ => 0)))] H := hP
  have hD : va_D A [(h0, .inr (3, [.null, .int 0, .int 0, .int 0, .int 0, .int 0, .int 0, .int 0])), (q_1, .inl (cy 1, 0, .inl (fun _ => 0)))] := hD
  refine W.widen (k := 1) (n := 0) (Nat.le_of_ble_eq_true rfl) (Nat.le_of_ble_eq_true rfl) ?_
  change W _ _ _ _ _ _ _ _ _ _ _ _ _ _ _ (F0 m 8 ls [.ref q_1, .ref h0])
  refine va_put (D := (dC, dI)) (ci := 3) (v := .ref q_1) (C := RX3) (T := TX3) (N := 8) hx hb hts (fun _ h9 => List.mem_cons_of_mem _ (List.mem_append_right _ h9)) tyX3 tyX3_ok nmX3 hown hK hP hD hS 0 rfl rfl 0 (by decide) (hts (.fieldLink RX3 9 "SeatsRound$Law" "text" "[B") (List.mem_of_getElem? (i := 5) rfl)) (fun _ h9 => h9) rfl (tyX3_ok 0 (by decide)) rfl rfl (Nat.le_of_ble_eq_true rfl) dX3_init_8 (fun H locs hP hD hS => ?_)
  have hP : va_P (dC, dI) vwCl [(h0, .inr (3, [.ref q_1, .int 0, .int 0, .int 0, .int 0, .int 0, .int 0, .int 0])), (q_1, .inl (cy 1, 0, .inl (fun _ => 0)))] H := hP
  have hD : va_D A [(h0, .inr (3, [.ref q_1, .int 0, .int 0, .int 0, .int 0, .int 0, .int 0, .int 0])), (q_1, .inl (cy 1, 0, .inl (fun _ => 0)))] := hD
  have hP := hP.sub (ws' := [(h0, .inr (3, [.ref q_1, .int 0, .int 0, .int 0, .int 0, .int 0, .int 0, .int 0]))]) [0] rfl
  have hD := hD.sub (ws' := [(h0, .inr (3, [.ref q_1, .int 0, .int 0, .int 0, .int 0, .int 0, .int 0, .int 0]))]) [0] (by decide) rfl
  refine lv_aload_n hx hb dX3_init_11 rfl (lv_at hl 0 rfl) ?_
  refine lv_iconst (v := 0) hx hb dX3_init_12 (by decide) ?_
  refine va_put (D := (dC, dI)) (ci := 3) (v := .int 0) (C := RX3) (T := TX3) (N := 8) hx hb hts (fun _ h9 => List.mem_cons_of_mem _ (List.mem_append_right _ h9)) tyX3 tyX3_ok nmX3 hown hK hP hD hS 0 rfl rfl 1 (by decide) (hts (.fieldLink RX3 15 "SeatsRound$Law" "length" "I") (List.mem_of_getElem? (i := 6) rfl)) (fun _ h9 => h9) rfl (tyX3_ok 1 (by decide)) rfl rfl (Nat.le_of_ble_eq_true rfl) dX3_init_13 (fun H locs hP hD hS => ?_)
  have hP : va_P (dC, dI) vwCl [(h0, .inr (3, [.ref q_1, .int 0, .int 0, .int 0, .int 0, .int 0, .int 0, .int 0]))] H := hP
  have hD : va_D A [(h0, .inr (3, [.ref q_1, .int 0, .int 0, .int 0, .int 0, .int 0, .int 0, .int 0]))] := hD
  refine lv_aload_n hx hb dX3_init_16 rfl (lv_at hl 0 rfl) ?_
  refine lv_iconst (v := 0) hx hb dX3_init_17 (by decide) ?_
  refine va_put (D := (dC, dI)) (ci := 3) (v := .int 0) (C := RX3) (T := TX3) (N := 8) hx hb hts (fun _ h9 => List.mem_cons_of_mem _ (List.mem_append_right _ h9)) tyX3 tyX3_ok nmX3 hown hK hP hD hS 0 rfl rfl 2 (by decide) (hts (.fieldLink RX3 19 "SeatsRound$Law" "at" "I") (List.mem_of_getElem? (i := 7) rfl)) (fun _ h9 => h9) rfl (tyX3_ok 2 (by decide)) rfl rfl (Nat.le_of_ble_eq_true rfl) dX3_init_18 (fun H locs hP hD hS => ?_)
  have hP : va_P (dC, dI) vwCl [(h0, .inr (3, [.ref q_1, .int 0, .int 0, .int 0, .int 0, .int 0, .int 0, .int 0]))] H := hP
  have hD : va_D A [(h0, .inr (3, [.ref q_1, .int 0, .int 0, .int 0, .int 0, .int 0, .int 0, .int 0]))] := hD
  refine lv_aload_n hx hb dX3_init_21 rfl (lv_at hl 0 rfl) ?_
  change W _ _ _ _ _ _ _ _ _ _ _ _ _ _ _ (F0 m 22 ls [.ref h0])
  refine lv_iconst (v := (-1)) hx hb dX3_init_22 (by decide) ?_
  refine va_put (D := (dC, dI)) (ci := 3) (v := .int (-1)) (C := RX3) (T := TX3) (N := 8) hx hb hts (fun _ h9 => List.mem_cons_of_mem _ (List.mem_append_right _ h9)) tyX3 tyX3_ok nmX3 hown hK hP hD hS 0 rfl rfl 3 (by decide) (hts (.fieldLink RX3 22 "SeatsRound$Law" "fault" "I") (List.mem_of_getElem? (i := 8) rfl)) (fun _ h9 => h9) rfl (tyX3_ok 3 (by decide)) rfl rfl (Nat.le_of_ble_eq_true rfl) dX3_init_23 (fun H locs hP hD hS => ?_)
  have hP : va_P (dC, dI) vwCl [(h0, .inr (3, [.ref q_1, .int 0, .int 0, .int (-1), .int 0, .int 0, .int 0, .int 0]))] H := hP
  have hD : va_D A [(h0, .inr (3, [.ref q_1, .int 0, .int 0, .int (-1), .int 0, .int 0, .int 0, .int 0]))] := hD
  refine lv_aload_n hx hb dX3_init_26 rfl (lv_at hl 0 rfl) ?_
  refine lv_iconst (v := 0) hx hb dX3_init_27 (by decide) ?_
  refine va_put (D := (dC, dI)) (ci := 3) (v := .int 0) (C := RX3) (T := TX3) (N := 8) hx hb hts (fun _ h9 => List.mem_cons_of_mem _ (List.mem_append_right _ h9)) tyX3 tyX3_ok nmX3 hown hK hP hD hS 0 rfl rfl 4 (by decide) (hts (.fieldLink RX3 25 "SeatsRound$Law" "members" "I") (List.mem_of_getElem? (i := 9) rfl)) (fun _ h9 => h9) rfl (tyX3_ok 4 (by decide)) rfl rfl (Nat.le_of_ble_eq_true rfl) dX3_init_28 (fun H locs hP hD hS => ?_)
  have hP : va_P (dC, dI) vwCl [(h0, .inr (3, [.ref q_1, .int 0, .int 0, .int (-1), .int 0, .int 0, .int 0, .int 0]))] H := hP
  have hD : va_D A [(h0, .inr (3, [.ref q_1, .int 0, .int 0, .int (-1), .int 0, .int 0, .int 0, .int 0]))] := hD
  refine lv_aload_n hx hb dX3_init_31 rfl (lv_at hl 0 rfl) ?_
  refine lv_iconst (v := 0) hx hb dX3_init_32 (by decide) ?_
  refine va_put (D := (dC, dI)) (ci := 3) (v := .int 0) (C := RX3) (T := TX3) (N := 8) hx hb hts (fun _ h9 => List.mem_cons_of_mem _ (List.mem_append_right _ h9)) tyX3 tyX3_ok nmX3 hown hK hP hD hS 0 rfl rfl 5 (by decide) (hts (.fieldLink RX3 28 "SeatsRound$Law" "streetsIn" "I") (List.mem_of_getElem? (i := 10) rfl)) (fun _ h9 => h9) rfl (tyX3_ok 5 (by decide)) rfl rfl (Nat.le_of_ble_eq_true rfl) dX3_init_33 (fun H locs hP hD hS => ?_)
  have hP : va_P (dC, dI) vwCl [(h0, .inr (3, [.ref q_1, .int 0, .int 0, .int (-1), .int 0, .int 0, .int 0, .int 0]))] H := hP
  have hD : va_D A [(h0, .inr (3, [.ref q_1, .int 0, .int 0, .int (-1), .int 0, .int 0, .int 0, .int 0]))] := hD
  change W _ _ _ _ _ _ _ _ _ _ _ _ _ _ _ (F0 m 36 ls [])
  refine lv_aload_n hx hb dX3_init_36 rfl (lv_at hl 0 rfl) ?_
  refine lv_iconst (v := 0) hx hb dX3_init_37 (by decide) ?_
  refine va_put (D := (dC, dI)) (ci := 3) (v := .int 0) (C := RX3) (T := TX3) (N := 8) hx hb hts (fun _ h9 => List.mem_cons_of_mem _ (List.mem_append_right _ h9)) tyX3 tyX3_ok nmX3 hown hK hP hD hS 0 rfl rfl 6 (by decide) (hts (.fieldLink RX3 31 "SeatsRound$Law" "weights" "I") (List.mem_of_getElem? (i := 11) rfl)) (fun _ h9 => h9) rfl (tyX3_ok 6 (by decide)) rfl rfl (Nat.le_of_ble_eq_true rfl) dX3_init_38 (fun H locs hP hD hS => ?_)
  have hP : va_P (dC, dI) vwCl [(h0, .inr (3, [.ref q_1, .int 0, .int 0, .int (-1), .int 0, .int 0, .int 0, .int 0]))] H := hP
  have hD : va_D A [(h0, .inr (3, [.ref q_1, .int 0, .int 0, .int (-1), .int 0, .int 0, .int 0, .int 0]))] := hD
  refine lv_aload_n hx hb dX3_init_41 rfl (lv_at hl 0 rfl) ?_
  refine lv_iconst (v := 0) hx hb dX3_init_42 (by decide) ?_
  refine va_put (D := (dC, dI)) (ci := 3) (v := .int 0) (C := RX3) (T := TX3) (N := 8) hx hb hts (fun _ h9 => List.mem_cons_of_mem _ (List.mem_append_right _ h9)) tyX3 tyX3_ok nmX3 hown hK hP hD hS 0 rfl rfl 7 (by decide) (hts (.fieldLink RX3 34 "SeatsRound$Law" "greatest" "I") (List.mem_of_getElem? (i := 12) rfl)) (fun _ h9 => h9) rfl (tyX3_ok 7 (by decide)) rfl rfl (Nat.le_of_ble_eq_true rfl) dX3_init_43 (fun H locs hP hD hS => ?_)
  have hP : va_P (dC, dI) vwCl [(h0, .inr (3, [.ref q_1, .int 0, .int 0, .int (-1), .int 0, .int 0, .int 0, .int 0]))] H := hP
  have hD : va_D A [(h0, .inr (3, [.ref q_1, .int 0, .int 0, .int (-1), .int 0, .int 0, .int 0, .int 0]))] := hD
  have hP9 := hP.sub (ws' := []) [] rfl
  have hD9 := hD.sub (ws' := []) [] (by decide) rfl
  exact W.vret hx hb hr (fun t ht hW => ⟨⟨(fun k => [q_1].getD k 0), rfl, trivial, ⟨by rw [ht]; exact hP9, hD9⟩⟩, hS.F ht⟩) hS.2.2 dX3_init_46
set_option maxHeartbeats 4000000 in
set_option maxRecDepth 100000 in
theorem c_Choice_init (l : Launch) (dC : Nat → ClassId) (dI : Nat → Nat → Nat) (cy : Nat → ClassId) (h0 : Nat) (k0 : Nat) (sz : Nat)  : Met l yX1_init wsX1_init ({ frames := 1, cells := 3, slots := 36, locals := 23 }) (va_Pc [.ref h0, .ref k0] (wPre (dC, dI) cy [(h0, .inr (1, [.null, .null, .int 0, .int 0, .int 0, .int 0, .int 0, .null, .null]))] sz)) (va_Qv (fun (u : Nat → Nat) => True) (fun (u : Nat → Nat) t => wAt (dC, dI) (va_A [(h0, .inr (1, [.null, .null, .int 0, .int 0, .int 0, .int 0, .int 0, .null, .null]))] sz) [] t) (va_A [(h0, .inr (1, [.null, .null, .int 0, .int 0, .int 0, .int 0, .int 0, .null, .null]))] sz)) 3 36 (va_A [(h0, .inr (1, [.null, .null, .int 0, .int 0, .int 0, .int 0, .int 0, .null, .null]))] sz) := by
  refine Met.ofW (cc := cX1_init) (maxL := 2) (ret := none) (by decide) rfl ?_
  intro p e s m args below meth c s₁ B hml hv
  obtain ⟨rfl, hsz, hP, hK, hD0, hN⟩ := hv
  have hx := B.exec
  have hb := B.bytes
  have hr := B.returns
  have hts := atoms_spec (ws := wsX1_init) B.pre
  have hown : s.vm.findClass RX1 = some m.cls := findClass_of_methodNamed B.named
  have hlocks := B.notSynchronized
  subst hsz
  have hin : meth.name = "<init>" := (name_of_methodNamed B.named B.method).1
  have hD := hD0.self (sz := s.heap.size)
  generalize hAe : va_A [(h0, .inr (1, [.null, .null, .int 0, .int 0, .int 0, .int 0, .int 0, .null, .null]))] s.heap.size = A at hD ⊢
  have hA : ∀ q : Nat, s.heap.size ≤ q → A q := fun q h => by rw [← hAe]; exact Or.inr h
  have hS : va_S A s.heap s.heap [] := va_S.rf
  have hl := lv_entry ([.ref h0, .ref k0]) (n := 2) (Nat.le_of_ble_eq_true rfl)
  rw [lg_entry_eq]
  generalize (lg_sl ([.ref h0, .ref k0]) ++ List.replicate (2 - (lg_sl ([.ref h0, .ref k0])).length) Slot.unset).toArray = ls at hl ⊢
  have hl : lv_has ls 2 [(0, .ref h0), (1, .ref k0)] := hl
  refine lv_aload_n hx hb dX1_init_0 rfl (lv_at hl 0 rfl) ?_
  refine W.objInit hx hb hown (hts (.methodLink RX1 3 objectInit) (List.mem_of_getElem? (i := 1) rfl)) (hts (.instanceMethod objectInit) (List.mem_of_getElem? (i := 2) rfl)) (hts (.code objectInit ⟨#[0xb1]⟩ 1 none) (List.mem_of_getElem? (i := 3) rfl)) rfl (hl.1.trans hml.symm) rfl dX1_init_1 (Nat.le_of_ble_eq_true rfl) (Nat.le_of_ble_eq_true rfl) ?_
  change W _ _ _ _ _ _ _ _ _ _ _ _ _ _ _ (F0 m 4 ls [])
  refine lv_aload_n hx hb dX1_init_4 rfl (lv_at hl 0 rfl) ?_
  refine lv_bipush (v := 12) hx hb dX1_init_5 (by decide) ?_
  refine vz_newa (atype := .int) (ty := .int) (t0 := 0) (N' := 12) (a0 := (12, .inl (fun _ => 0))) hx hb (hts (.arrayClass .int) (List.mem_of_getElem? (i := 4) rfl)) rfl rfl hK hP hD hS hA (fun _ => rfl) (by decide) rfl (by decide) (Nat.le_of_ble_eq_true rfl) (Nat.le_of_ble_eq_true rfl) dX1_init_7 (fun q_1 H hP hD hS => ?_)
  have hP : va_P (dC, dI) vwCl [(h0, .inr (1, [.null, .null, .int 0, .int 0, .int 0, .int 0, .int 0, .null, .null])), (q_1, .inl (cy 0, 12, .inl (fun _ => 0)))] H := hP
  have hD : va_D A [(h0, .inr (1, [.null, .null, .int 0, .int 0, .int 0, .int 0, .int 0, .null, .null])), (q_1, .inl (cy 0, 12, .inl (fun _ => 0)))] := hD
  refine W.widen (k := 1) (n := 12) (Nat.le_of_ble_eq_true rfl) (Nat.le_of_ble_eq_true rfl) ?_
  refine va_putF (D := (dC, dI)) (ci := 1) (v := .ref q_1) (C := RX1) (T := TX1) (N := 9) hx hb hts (fun _ h9 => List.mem_cons_of_mem _ (List.mem_append_right _ h9)) tyX1 tyX1_ok nmX1 hown hK hP hD hS 0 rfl rfl 0 (by decide) (hts (.fieldLink RX1 9 "SeatsRound$Choice" "picks" "[I") (List.mem_of_getElem? (i := 5) rfl)) (fun _ h9 => h9) rfl hin rfl (tyX1_ok 0 (by decide)) rfl rfl (Nat.le_of_ble_eq_true rfl) dX1_init_9 (fun H locs hP hD hS => ?_)
  have hP : va_P (dC, dI) vwCl [(h0, .inr (1, [.ref q_1, .null, .int 0, .int 0, .int 0, .int 0, .int 0, .null, .null])), (q_1, .inl (cy 0, 12, .inl (fun _ => 0)))] H := hP
  have hD : va_D A [(h0, .inr (1, [.ref q_1, .null, .int 0, .int 0, .int 0, .int 0, .int 0, .null, .null])), (q_1, .inl (cy 0, 12, .inl (fun _ => 0)))] := hD
  have hP := hP.sub (ws' := [(h0, .inr (1, [.ref q_1, .null, .int 0, .int 0, .int 0, .int 0, .int 0, .null, .null]))]) [0] rfl
  have hD := hD.sub (ws' := [(h0, .inr (1, [.ref q_1, .null, .int 0, .int 0, .int 0, .int 0, .int 0, .null, .null]))]) [0] (by decide) rfl
  refine lv_aload_n hx hb dX1_init_12 rfl (lv_at hl 0 rfl) ?_
  refine lv_bipush (v := 12) hx hb dX1_init_13 (by decide) ?_
  refine vz_newa (atype := .int) (ty := .int) (t0 := 0) (N' := 12) (a0 := (12, .inl (fun _ => 0))) hx hb (hts (.arrayClass .int) (List.mem_of_getElem? (i := 4) rfl)) rfl rfl hK hP hD hS hA (fun _ => rfl) (by decide) rfl (by decide) (Nat.le_of_ble_eq_true rfl) (Nat.le_of_ble_eq_true rfl) dX1_init_15 (fun q_2 H hP hD hS => ?_)
  have hP : va_P (dC, dI) vwCl [(h0, .inr (1, [.ref q_1, .null, .int 0, .int 0, .int 0, .int 0, .int 0, .null, .null])), (q_2, .inl (cy 0, 12, .inl (fun _ => 0)))] H := hP
  have hD : va_D A [(h0, .inr (1, [.ref q_1, .null, .int 0, .int 0, .int 0, .int 0, .int 0, .null, .null])), (q_2, .inl (cy 0, 12, .inl (fun _ => 0)))] := hD
  refine W.widen (k := 2) (n := 24) (Nat.le_of_ble_eq_true rfl) (Nat.le_of_ble_eq_true rfl) ?_
  refine va_putF (D := (dC, dI)) (ci := 1) (v := .ref q_2) (C := RX1) (T := TX1) (N := 9) hx hb hts (fun _ h9 => List.mem_cons_of_mem _ (List.mem_append_right _ h9)) tyX1 tyX1_ok nmX1 hown hK hP hD hS 0 rfl rfl 1 (by decide) (hts (.fieldLink RX1 15 "SeatsRound$Choice" "chosen" "[I") (List.mem_of_getElem? (i := 6) rfl)) (fun _ h9 => h9) rfl hin rfl (tyX1_ok 1 (by decide)) rfl rfl (Nat.le_of_ble_eq_true rfl) dX1_init_17 (fun H locs hP hD hS => ?_)
  have hP : va_P (dC, dI) vwCl [(h0, .inr (1, [.ref q_1, .ref q_2, .int 0, .int 0, .int 0, .int 0, .int 0, .null, .null])), (q_2, .inl (cy 0, 12, .inl (fun _ => 0)))] H := hP
  have hD : va_D A [(h0, .inr (1, [.ref q_1, .ref q_2, .int 0, .int 0, .int 0, .int 0, .int 0, .null, .null])), (q_2, .inl (cy 0, 12, .inl (fun _ => 0)))] := hD
  have hP := hP.sub (ws' := [(h0, .inr (1, [.ref q_1, .ref q_2, .int 0, .int 0, .int 0, .int 0, .int 0, .null, .null]))]) [0] rfl
  have hD := hD.sub (ws' := [(h0, .inr (1, [.ref q_1, .ref q_2, .int 0, .int 0, .int 0, .int 0, .int 0, .null, .null]))]) [0] (by decide) rfl
  change W _ _ _ _ _ _ _ _ _ _ _ _ _ _ _ (F0 m 20 ls [])
  refine lv_aload_n hx hb dX1_init_20 rfl (lv_at hl 0 rfl) ?_
  refine lv_iconst (v := 0) hx hb dX1_init_21 (by decide) ?_
  refine va_put (D := (dC, dI)) (ci := 1) (v := .int 0) (C := RX1) (T := TX1) (N := 9) hx hb hts (fun _ h9 => List.mem_cons_of_mem _ (List.mem_append_right _ h9)) tyX1 tyX1_ok nmX1 hown hK hP hD hS 0 rfl rfl 2 (by decide) (hts (.fieldLink RX1 18 "SeatsRound$Choice" "pickCount" "I") (List.mem_of_getElem? (i := 7) rfl)) (fun _ h9 => h9) rfl (tyX1_ok 2 (by decide)) rfl rfl (Nat.le_of_ble_eq_true rfl) dX1_init_22 (fun H locs hP hD hS => ?_)
  have hP : va_P (dC, dI) vwCl [(h0, .inr (1, [.ref q_1, .ref q_2, .int 0, .int 0, .int 0, .int 0, .int 0, .null, .null]))] H := hP
  have hD : va_D A [(h0, .inr (1, [.ref q_1, .ref q_2, .int 0, .int 0, .int 0, .int 0, .int 0, .null, .null]))] := hD
  refine lv_aload_n hx hb dX1_init_25 rfl (lv_at hl 0 rfl) ?_
  refine lv_iconst (v := 0) hx hb dX1_init_26 (by decide) ?_
  refine va_put (D := (dC, dI)) (ci := 1) (v := .int 0) (C := RX1) (T := TX1) (N := 9) hx hb hts (fun _ h9 => List.mem_cons_of_mem _ (List.mem_append_right _ h9)) tyX1 tyX1_ok nmX1 hown hK hP hD hS 0 rfl rfl 3 (by decide) (hts (.fieldLink RX1 22 "SeatsRound$Choice" "chosenCount" "I") (List.mem_of_getElem? (i := 8) rfl)) (fun _ h9 => h9) rfl (tyX1_ok 3 (by decide)) rfl rfl (Nat.le_of_ble_eq_true rfl) dX1_init_27 (fun H locs hP hD hS => ?_)
  have hP : va_P (dC, dI) vwCl [(h0, .inr (1, [.ref q_1, .ref q_2, .int 0, .int 0, .int 0, .int 0, .int 0, .null, .null]))] H := hP
  have hD : va_D A [(h0, .inr (1, [.ref q_1, .ref q_2, .int 0, .int 0, .int 0, .int 0, .int 0, .null, .null]))] := hD
  refine lv_aload_n hx hb dX1_init_30 rfl (lv_at hl 0 rfl) ?_
  refine lv_iconst (v := 0) hx hb dX1_init_31 (by decide) ?_
  change W _ _ _ _ _ _ _ _ _ _ _ _ _ _ _ (F0 m 32 ls [.int 0, .ref h0])
  refine va_put (D := (dC, dI)) (ci := 1) (v := .int 0) (C := RX1) (T := TX1) (N := 9) hx hb hts (fun _ h9 => List.mem_cons_of_mem _ (List.mem_append_right _ h9)) tyX1 tyX1_ok nmX1 hown hK hP hD hS 0 rfl rfl 4 (by decide) (hts (.fieldLink RX1 25 "SeatsRound$Choice" "chosenBits" "I") (List.mem_of_getElem? (i := 9) rfl)) (fun _ h9 => h9) rfl (tyX1_ok 4 (by decide)) rfl rfl (Nat.le_of_ble_eq_true rfl) dX1_init_32 (fun H locs hP hD hS => ?_)
  have hP : va_P (dC, dI) vwCl [(h0, .inr (1, [.ref q_1, .ref q_2, .int 0, .int 0, .int 0, .int 0, .int 0, .null, .null]))] H := hP
  have hD : va_D A [(h0, .inr (1, [.ref q_1, .ref q_2, .int 0, .int 0, .int 0, .int 0, .int 0, .null, .null]))] := hD
  refine lv_aload_n hx hb dX1_init_35 rfl (lv_at hl 0 rfl) ?_
  refine lv_iconst (v := 0) hx hb dX1_init_36 (by decide) ?_
  refine va_put (D := (dC, dI)) (ci := 1) (v := .int 0) (C := RX1) (T := TX1) (N := 9) hx hb hts (fun _ h9 => List.mem_cons_of_mem _ (List.mem_append_right _ h9)) tyX1 tyX1_ok nmX1 hown hK hP hD hS 0 rfl rfl 5 (by decide) (hts (.fieldLink RX1 28 "SeatsRound$Choice" "streetBits" "I") (List.mem_of_getElem? (i := 10) rfl)) (fun _ h9 => h9) rfl (tyX1_ok 5 (by decide)) rfl rfl (Nat.le_of_ble_eq_true rfl) dX1_init_37 (fun H locs hP hD hS => ?_)
  have hP : va_P (dC, dI) vwCl [(h0, .inr (1, [.ref q_1, .ref q_2, .int 0, .int 0, .int 0, .int 0, .int 0, .null, .null]))] H := hP
  have hD : va_D A [(h0, .inr (1, [.ref q_1, .ref q_2, .int 0, .int 0, .int 0, .int 0, .int 0, .null, .null]))] := hD
  refine lv_aload_n hx hb dX1_init_40 rfl (lv_at hl 0 rfl) ?_
  refine lv_iconst (v := 0) hx hb dX1_init_41 (by decide) ?_
  refine va_put (D := (dC, dI)) (ci := 1) (v := .int 0) (C := RX1) (T := TX1) (N := 9) hx hb hts (fun _ h9 => List.mem_cons_of_mem _ (List.mem_append_right _ h9)) tyX1 tyX1_ok nmX1 hown hK hP hD hS 0 rfl rfl 6 (by decide) (hts (.fieldLink RX1 31 "SeatsRound$Choice" "pickBits" "I") (List.mem_of_getElem? (i := 11) rfl)) (fun _ h9 => h9) rfl (tyX1_ok 6 (by decide)) rfl rfl (Nat.le_of_ble_eq_true rfl) dX1_init_42 (fun H locs hP hD hS => ?_)
  have hP : va_P (dC, dI) vwCl [(h0, .inr (1, [.ref q_1, .ref q_2, .int 0, .int 0, .int 0, .int 0, .int 0, .null, .null]))] H := hP
  have hD : va_D A [(h0, .inr (1, [.ref q_1, .ref q_2, .int 0, .int 0, .int 0, .int 0, .int 0, .null, .null]))] := hD
  refine lv_aload_n hx hb dX1_init_45 rfl (lv_at hl 0 rfl) ?_
  change W _ _ _ _ _ _ _ _ _ _ _ _ _ _ _ (F0 m 46 ls [.ref h0])
  refine lv_bipush (v := 12) hx hb dX1_init_46 (by decide) ?_
  refine vz_newa (atype := .int) (ty := .int) (t0 := 0) (N' := 12) (a0 := (12, .inl (fun _ => 0))) hx hb (hts (.arrayClass .int) (List.mem_of_getElem? (i := 4) rfl)) rfl rfl hK hP hD hS hA (fun _ => rfl) (by decide) rfl (by decide) (Nat.le_of_ble_eq_true rfl) (Nat.le_of_ble_eq_true rfl) dX1_init_48 (fun q_3 H hP hD hS => ?_)
  have hP : va_P (dC, dI) vwCl [(h0, .inr (1, [.ref q_1, .ref q_2, .int 0, .int 0, .int 0, .int 0, .int 0, .null, .null])), (q_3, .inl (cy 0, 12, .inl (fun _ => 0)))] H := hP
  have hD : va_D A [(h0, .inr (1, [.ref q_1, .ref q_2, .int 0, .int 0, .int 0, .int 0, .int 0, .null, .null])), (q_3, .inl (cy 0, 12, .inl (fun _ => 0)))] := hD
  refine W.widen (k := 3) (n := 36) (Nat.le_of_ble_eq_true rfl) (Nat.le_of_ble_eq_true rfl) ?_
  refine va_putF (D := (dC, dI)) (ci := 1) (v := .ref q_3) (C := RX1) (T := TX1) (N := 9) hx hb hts (fun _ h9 => List.mem_cons_of_mem _ (List.mem_append_right _ h9)) tyX1 tyX1_ok nmX1 hown hK hP hD hS 0 rfl rfl 7 (by decide) (hts (.fieldLink RX1 34 "SeatsRound$Choice" "sums" "[I") (List.mem_of_getElem? (i := 12) rfl)) (fun _ h9 => h9) rfl hin rfl (tyX1_ok 7 (by decide)) rfl rfl (Nat.le_of_ble_eq_true rfl) dX1_init_50 (fun H locs hP hD hS => ?_)
  have hP : va_P (dC, dI) vwCl [(h0, .inr (1, [.ref q_1, .ref q_2, .int 0, .int 0, .int 0, .int 0, .int 0, .ref q_3, .null])), (q_3, .inl (cy 0, 12, .inl (fun _ => 0)))] H := hP
  have hD : va_D A [(h0, .inr (1, [.ref q_1, .ref q_2, .int 0, .int 0, .int 0, .int 0, .int 0, .ref q_3, .null])), (q_3, .inl (cy 0, 12, .inl (fun _ => 0)))] := hD
  have hP := hP.sub (ws' := [(h0, .inr (1, [.ref q_1, .ref q_2, .int 0, .int 0, .int 0, .int 0, .int 0, .ref q_3, .null]))]) [0] rfl
  have hD := hD.sub (ws' := [(h0, .inr (1, [.ref q_1, .ref q_2, .int 0, .int 0, .int 0, .int 0, .int 0, .ref q_3, .null]))]) [0] (by decide) rfl
  refine lv_aload_n hx hb dX1_init_53 rfl (lv_at hl 0 rfl) ?_
  refine lv_aload_n hx hb dX1_init_54 rfl (lv_at hl 1 rfl) ?_
  refine va_putF (D := (dC, dI)) (ci := 1) (v := .ref k0) (C := RX1) (T := TX1) (N := 9) hx hb hts (fun _ h9 => List.mem_cons_of_mem _ (List.mem_append_right _ h9)) tyX1 tyX1_ok nmX1 hown hK hP hD hS 0 rfl rfl 8 (by decide) (hts (.fieldLink RX1 37 "SeatsRound$Choice" "keepers" "LSeatsRound$Keepers;") (List.mem_of_getElem? (i := 13) rfl)) (fun _ h9 => h9) rfl hin rfl (tyX1_ok 8 (by decide)) rfl rfl (Nat.le_of_ble_eq_true rfl) dX1_init_55 (fun H locs hP hD hS => ?_)
  have hP : va_P (dC, dI) vwCl [(h0, .inr (1, [.ref q_1, .ref q_2, .int 0, .int 0, .int 0, .int 0, .int 0, .ref q_3, .ref k0]))] H := hP
  have hD : va_D A [(h0, .inr (1, [.ref q_1, .ref q_2, .int 0, .int 0, .int 0, .int 0, .int 0, .ref q_3, .ref k0]))] := hD
  have hP9 := hP.sub (ws' := []) [] rfl
  have hD9 := hD.sub (ws' := []) [] (by decide) rfl
  exact W.vret hx hb hr (fun t ht hW => ⟨⟨(fun k => [q_1, q_2, q_3].getD k 0), rfl, trivial, ⟨by rw [ht]; exact hP9, hD9⟩⟩, hS.F ht⟩) hS.2.2 dX1_init_58
set_option maxHeartbeats 4000000 in
set_option maxRecDepth 100000 in
theorem c_Table_init (l : Launch) (dC : Nat → ClassId) (dI : Nat → Nat → Nat) (cy : Nat → ClassId) (h0 : Nat) (sz : Nat)  : Met l yX8_init wsX8_init ({ frames := 1, cells := 5, slots := 2104, locals := 23 }) (va_Pc [.ref h0] (wPre (dC, dI) cy [(h0, .inr (8, [.int 0, .int 0, .int 0, .int 0, .int 0, .int 0, .int 0, .int 0, .null, .null, .null, .null, .null]))] sz)) (va_Qv (fun (u : Nat → Nat) => True) (fun (u : Nat → Nat) t => wAt (dC, dI) (va_A [(h0, .inr (8, [.int 0, .int 0, .int 0, .int 0, .int 0, .int 0, .int 0, .int 0, .null, .null, .null, .null, .null]))] sz) [] t) (va_A [(h0, .inr (8, [.int 0, .int 0, .int 0, .int 0, .int 0, .int 0, .int 0, .int 0, .null, .null, .null, .null, .null]))] sz)) 5 2104 (va_A [(h0, .inr (8, [.int 0, .int 0, .int 0, .int 0, .int 0, .int 0, .int 0, .int 0, .null, .null, .null, .null, .null]))] sz) := by
  refine Met.ofW (cc := cX8_init) (maxL := 1) (ret := none) (by decide) rfl ?_
  intro p e s m args below meth c s₁ B hml hv
  obtain ⟨rfl, hsz, hP, hK, hD0, hN⟩ := hv
  have hx := B.exec
  have hb := B.bytes
  have hr := B.returns
  have hts := atoms_spec (ws := wsX8_init) B.pre
  have hown : s.vm.findClass RX8 = some m.cls := findClass_of_methodNamed B.named
  have hlocks := B.notSynchronized
  subst hsz
  have hin : meth.name = "<init>" := (name_of_methodNamed B.named B.method).1
  have hD := hD0.self (sz := s.heap.size)
  generalize hAe : va_A [(h0, .inr (8, [.int 0, .int 0, .int 0, .int 0, .int 0, .int 0, .int 0, .int 0, .null, .null, .null, .null, .null]))] s.heap.size = A at hD ⊢
  have hA : ∀ q : Nat, s.heap.size ≤ q → A q := fun q h => by rw [← hAe]; exact Or.inr h
  have hS : va_S A s.heap s.heap [] := va_S.rf
  have hl := lv_entry ([.ref h0]) (n := 1) (Nat.le_of_ble_eq_true rfl)
  rw [lg_entry_eq]
  generalize (lg_sl ([.ref h0]) ++ List.replicate (1 - (lg_sl ([.ref h0])).length) Slot.unset).toArray = ls at hl ⊢
  have hl : lv_has ls 1 [(0, .ref h0)] := hl
  refine lv_aload_n hx hb dX8_init_0 rfl (lv_at hl 0 rfl) ?_
  refine W.objInit hx hb hown (hts (.methodLink RX8 3 objectInit) (List.mem_of_getElem? (i := 1) rfl)) (hts (.instanceMethod objectInit) (List.mem_of_getElem? (i := 2) rfl)) (hts (.code objectInit ⟨#[0xb1]⟩ 1 none) (List.mem_of_getElem? (i := 3) rfl)) rfl (hl.1.trans hml.symm) rfl dX8_init_1 (Nat.le_of_ble_eq_true rfl) (Nat.le_of_ble_eq_true rfl) ?_
  refine lv_aload_n hx hb dX8_init_4 rfl (lv_at hl 0 rfl) ?_
  refine lv_iconst (v := 0) hx hb dX8_init_5 (by decide) ?_
  change W _ _ _ _ _ _ _ _ _ _ _ _ _ _ _ (F0 m 6 ls [.int 0, .ref h0])
  refine va_put (D := (dC, dI)) (ci := 8) (v := .int 0) (C := RX8) (T := TX8) (N := 13) hx hb hts (fun _ h9 => List.mem_cons_of_mem _ (List.mem_append_right _ h9)) tyX8 tyX8_ok nmX8 hown hK hP hD hS 0 rfl rfl 0 (by decide) (hts (.fieldLink RX8 9 "SeatsRound$Table" "members" "I") (List.mem_of_getElem? (i := 4) rfl)) (fun _ h9 => h9) rfl (tyX8_ok 0 (by decide)) rfl rfl (Nat.le_of_ble_eq_true rfl) dX8_init_6 (fun H locs hP hD hS => ?_)
  have hP : va_P (dC, dI) vwCl [(h0, .inr (8, [.int 0, .int 0, .int 0, .int 0, .int 0, .int 0, .int 0, .int 0, .null, .null, .null, .null, .null]))] H := hP
  have hD : va_D A [(h0, .inr (8, [.int 0, .int 0, .int 0, .int 0, .int 0, .int 0, .int 0, .int 0, .null, .null, .null, .null, .null]))] := hD
  refine lv_aload_n hx hb dX8_init_9 rfl (lv_at hl 0 rfl) ?_
  refine lv_iconst (v := 0) hx hb dX8_init_10 (by decide) ?_
  refine va_put (D := (dC, dI)) (ci := 8) (v := .int 0) (C := RX8) (T := TX8) (N := 13) hx hb hts (fun _ h9 => List.mem_cons_of_mem _ (List.mem_append_right _ h9)) tyX8 tyX8_ok nmX8 hown hK hP hD hS 0 rfl rfl 1 (by decide) (hts (.fieldLink RX8 15 "SeatsRound$Table" "turn" "I") (List.mem_of_getElem? (i := 5) rfl)) (fun _ h9 => h9) rfl (tyX8_ok 1 (by decide)) rfl rfl (Nat.le_of_ble_eq_true rfl) dX8_init_11 (fun H locs hP hD hS => ?_)
  have hP : va_P (dC, dI) vwCl [(h0, .inr (8, [.int 0, .int 0, .int 0, .int 0, .int 0, .int 0, .int 0, .int 0, .null, .null, .null, .null, .null]))] H := hP
  have hD : va_D A [(h0, .inr (8, [.int 0, .int 0, .int 0, .int 0, .int 0, .int 0, .int 0, .int 0, .null, .null, .null, .null, .null]))] := hD
  refine lv_aload_n hx hb dX8_init_14 rfl (lv_at hl 0 rfl) ?_
  refine lv_iconst (v := 1) hx hb dX8_init_15 (by decide) ?_
  refine va_put (D := (dC, dI)) (ci := 8) (v := .int 1) (C := RX8) (T := TX8) (N := 13) hx hb hts (fun _ h9 => List.mem_cons_of_mem _ (List.mem_append_right _ h9)) tyX8 tyX8_ok nmX8 hown hK hP hD hS 0 rfl rfl 2 (by decide) (hts (.fieldLink RX8 18 "SeatsRound$Table" "copies" "I") (List.mem_of_getElem? (i := 6) rfl)) (fun _ h9 => h9) rfl (tyX8_ok 2 (by decide)) rfl rfl (Nat.le_of_ble_eq_true rfl) dX8_init_16 (fun H locs hP hD hS => ?_)
  have hP : va_P (dC, dI) vwCl [(h0, .inr (8, [.int 0, .int 0, .int 1, .int 0, .int 0, .int 0, .int 0, .int 0, .null, .null, .null, .null, .null]))] H := hP
  have hD : va_D A [(h0, .inr (8, [.int 0, .int 0, .int 1, .int 0, .int 0, .int 0, .int 0, .int 0, .null, .null, .null, .null, .null]))] := hD
  refine lv_aload_n hx hb dX8_init_19 rfl (lv_at hl 0 rfl) ?_
  change W _ _ _ _ _ _ _ _ _ _ _ _ _ _ _ (F0 m 20 ls [.ref h0])
  refine lv_iconst (v := 1) hx hb dX8_init_20 (by decide) ?_
  refine va_put (D := (dC, dI)) (ci := 8) (v := .int 1) (C := RX8) (T := TX8) (N := 13) hx hb hts (fun _ h9 => List.mem_cons_of_mem _ (List.mem_append_right _ h9)) tyX8 tyX8_ok nmX8 hown hK hP hD hS 0 rfl rfl 3 (by decide) (hts (.fieldLink RX8 21 "SeatsRound$Table" "streets" "I") (List.mem_of_getElem? (i := 7) rfl)) (fun _ h9 => h9) rfl (tyX8_ok 3 (by decide)) rfl rfl (Nat.le_of_ble_eq_true rfl) dX8_init_21 (fun H locs hP hD hS => ?_)
  have hP : va_P (dC, dI) vwCl [(h0, .inr (8, [.int 0, .int 0, .int 1, .int 1, .int 0, .int 0, .int 0, .int 0, .null, .null, .null, .null, .null]))] H := hP
  have hD : va_D A [(h0, .inr (8, [.int 0, .int 0, .int 1, .int 1, .int 0, .int 0, .int 0, .int 0, .null, .null, .null, .null, .null]))] := hD
  refine lv_aload_n hx hb dX8_init_24 rfl (lv_at hl 0 rfl) ?_
  refine lv_iconst (v := 0) hx hb dX8_init_25 (by decide) ?_
  refine va_put (D := (dC, dI)) (ci := 8) (v := .int 0) (C := RX8) (T := TX8) (N := 13) hx hb hts (fun _ h9 => List.mem_cons_of_mem _ (List.mem_append_right _ h9)) tyX8 tyX8_ok nmX8 hown hK hP hD hS 0 rfl rfl 4 (by decide) (hts (.fieldLink RX8 24 "SeatsRound$Table" "way" "I") (List.mem_of_getElem? (i := 8) rfl)) (fun _ h9 => h9) rfl (tyX8_ok 4 (by decide)) rfl rfl (Nat.le_of_ble_eq_true rfl) dX8_init_26 (fun H locs hP hD hS => ?_)
  have hP : va_P (dC, dI) vwCl [(h0, .inr (8, [.int 0, .int 0, .int 1, .int 1, .int 0, .int 0, .int 0, .int 0, .null, .null, .null, .null, .null]))] H := hP
  have hD : va_D A [(h0, .inr (8, [.int 0, .int 0, .int 1, .int 1, .int 0, .int 0, .int 0, .int 0, .null, .null, .null, .null, .null]))] := hD
  refine lv_aload_n hx hb dX8_init_29 rfl (lv_at hl 0 rfl) ?_
  refine lv_iconst (v := 0) hx hb dX8_init_30 (by decide) ?_
  refine va_put (D := (dC, dI)) (ci := 8) (v := .int 0) (C := RX8) (T := TX8) (N := 13) hx hb hts (fun _ h9 => List.mem_cons_of_mem _ (List.mem_append_right _ h9)) tyX8 tyX8_ok nmX8 hown hK hP hD hS 0 rfl rfl 5 (by decide) (hts (.fieldLink RX8 27 "SeatsRound$Table" "seats" "I") (List.mem_of_getElem? (i := 9) rfl)) (fun _ h9 => h9) rfl (tyX8_ok 5 (by decide)) rfl rfl (Nat.le_of_ble_eq_true rfl) dX8_init_31 (fun H locs hP hD hS => ?_)
  have hP : va_P (dC, dI) vwCl [(h0, .inr (8, [.int 0, .int 0, .int 1, .int 1, .int 0, .int 0, .int 0, .int 0, .null, .null, .null, .null, .null]))] H := hP
  have hD : va_D A [(h0, .inr (8, [.int 0, .int 0, .int 1, .int 1, .int 0, .int 0, .int 0, .int 0, .null, .null, .null, .null, .null]))] := hD
  change W _ _ _ _ _ _ _ _ _ _ _ _ _ _ _ (F0 m 34 ls [])
  refine lv_aload_n hx hb dX8_init_34 rfl (lv_at hl 0 rfl) ?_
  refine lv_iconst (v := 0) hx hb dX8_init_35 (by decide) ?_
  refine va_put (D := (dC, dI)) (ci := 8) (v := .int 0) (C := RX8) (T := TX8) (N := 13) hx hb hts (fun _ h9 => List.mem_cons_of_mem _ (List.mem_append_right _ h9)) tyX8 tyX8_ok nmX8 hown hK hP hD hS 0 rfl rfl 6 (by decide) (hts (.fieldLink RX8 30 "SeatsRound$Table" "lawLength" "I") (List.mem_of_getElem? (i := 10) rfl)) (fun _ h9 => h9) rfl (tyX8_ok 6 (by decide)) rfl rfl (Nat.le_of_ble_eq_true rfl) dX8_init_36 (fun H locs hP hD hS => ?_)
  have hP : va_P (dC, dI) vwCl [(h0, .inr (8, [.int 0, .int 0, .int 1, .int 1, .int 0, .int 0, .int 0, .int 0, .null, .null, .null, .null, .null]))] H := hP
  have hD : va_D A [(h0, .inr (8, [.int 0, .int 0, .int 1, .int 1, .int 0, .int 0, .int 0, .int 0, .null, .null, .null, .null, .null]))] := hD
  refine lv_aload_n hx hb dX8_init_39 rfl (lv_at hl 0 rfl) ?_
  refine lv_iconst (v := 0) hx hb dX8_init_40 (by decide) ?_
  refine va_put (D := (dC, dI)) (ci := 8) (v := .int 0) (C := RX8) (T := TX8) (N := 13) hx hb hts (fun _ h9 => List.mem_cons_of_mem _ (List.mem_append_right _ h9)) tyX8 tyX8_ok nmX8 hown hK hP hD hS 0 rfl rfl 7 (by decide) (hts (.fieldLink RX8 33 "SeatsRound$Table" "oddsCounted" "Z") (List.mem_of_getElem? (i := 11) rfl)) (fun _ h9 => h9) rfl (tyX8_ok 7 (by decide)) rfl rfl (Nat.le_of_ble_eq_true rfl) dX8_init_41 (fun H locs hP hD hS => ?_)
  have hP : va_P (dC, dI) vwCl [(h0, .inr (8, [.int 0, .int 0, .int 1, .int 1, .int 0, .int 0, .int 0, .int 0, .null, .null, .null, .null, .null]))] H := hP
  have hD : va_D A [(h0, .inr (8, [.int 0, .int 0, .int 1, .int 1, .int 0, .int 0, .int 0, .int 0, .null, .null, .null, .null, .null]))] := hD
  refine lv_aload_n hx hb dX8_init_44 rfl (lv_at hl 0 rfl) ?_
  refine lv_bipush (v := 12) hx hb dX8_init_45 (by decide) ?_
  change W _ _ _ _ _ _ _ _ _ _ _ _ _ _ _ (F0 m 47 ls [.int 12, .ref h0])
  refine vz_newa (atype := .int) (ty := .int) (t0 := 0) (N' := 12) (a0 := (12, .inl (fun _ => 0))) hx hb (hts (.arrayClass .int) (List.mem_of_getElem? (i := 12) rfl)) rfl rfl hK hP hD hS hA (fun _ => rfl) (by decide) rfl (by decide) (Nat.le_of_ble_eq_true rfl) (Nat.le_of_ble_eq_true rfl) dX8_init_47 (fun q_1 H hP hD hS => ?_)
  have hP : va_P (dC, dI) vwCl [(h0, .inr (8, [.int 0, .int 0, .int 1, .int 1, .int 0, .int 0, .int 0, .int 0, .null, .null, .null, .null, .null])), (q_1, .inl (cy 0, 12, .inl (fun _ => 0)))] H := hP
  have hD : va_D A [(h0, .inr (8, [.int 0, .int 0, .int 1, .int 1, .int 0, .int 0, .int 0, .int 0, .null, .null, .null, .null, .null])), (q_1, .inl (cy 0, 12, .inl (fun _ => 0)))] := hD
  refine W.widen (k := 1) (n := 12) (Nat.le_of_ble_eq_true rfl) (Nat.le_of_ble_eq_true rfl) ?_
  refine va_putF (D := (dC, dI)) (ci := 8) (v := .ref q_1) (C := RX8) (T := TX8) (N := 13) hx hb hts (fun _ h9 => List.mem_cons_of_mem _ (List.mem_append_right _ h9)) tyX8 tyX8_ok nmX8 hown hK hP hD hS 0 rfl rfl 8 (by decide) (hts (.fieldLink RX8 37 "SeatsRound$Table" "weight" "[I") (List.mem_of_getElem? (i := 13) rfl)) (fun _ h9 => h9) rfl hin rfl (tyX8_ok 8 (by decide)) rfl rfl (Nat.le_of_ble_eq_true rfl) dX8_init_49 (fun H locs hP hD hS => ?_)
  have hP : va_P (dC, dI) vwCl [(h0, .inr (8, [.int 0, .int 0, .int 1, .int 1, .int 0, .int 0, .int 0, .int 0, .ref q_1, .null, .null, .null, .null])), (q_1, .inl (cy 0, 12, .inl (fun _ => 0)))] H := hP
  have hD : va_D A [(h0, .inr (8, [.int 0, .int 0, .int 1, .int 1, .int 0, .int 0, .int 0, .int 0, .ref q_1, .null, .null, .null, .null])), (q_1, .inl (cy 0, 12, .inl (fun _ => 0)))] := hD
  have hP := hP.sub (ws' := [(h0, .inr (8, [.int 0, .int 0, .int 1, .int 1, .int 0, .int 0, .int 0, .int 0, .ref q_1, .null, .null, .null, .null]))]) [0] rfl
  have hD := hD.sub (ws' := [(h0, .inr (8, [.int 0, .int 0, .int 1, .int 1, .int 0, .int 0, .int 0, .int 0, .ref q_1, .null, .null, .null, .null]))]) [0] (by decide) rfl
  refine lv_aload_n hx hb dX8_init_52 rfl (lv_at hl 0 rfl) ?_
  refine lv_bipush (v := 12) hx hb dX8_init_53 (by decide) ?_
  refine vz_newa (atype := .int) (ty := .int) (t0 := 0) (N' := 12) (a0 := (12, .inl (fun _ => 0))) hx hb (hts (.arrayClass .int) (List.mem_of_getElem? (i := 12) rfl)) rfl rfl hK hP hD hS hA (fun _ => rfl) (by decide) rfl (by decide) (Nat.le_of_ble_eq_true rfl) (Nat.le_of_ble_eq_true rfl) dX8_init_55 (fun q_2 H hP hD hS => ?_)
  have hP : va_P (dC, dI) vwCl [(h0, .inr (8, [.int 0, .int 0, .int 1, .int 1, .int 0, .int 0, .int 0, .int 0, .ref q_1, .null, .null, .null, .null])), (q_2, .inl (cy 0, 12, .inl (fun _ => 0)))] H := hP
  have hD : va_D A [(h0, .inr (8, [.int 0, .int 0, .int 1, .int 1, .int 0, .int 0, .int 0, .int 0, .ref q_1, .null, .null, .null, .null])), (q_2, .inl (cy 0, 12, .inl (fun _ => 0)))] := hD
  refine W.widen (k := 2) (n := 24) (Nat.le_of_ble_eq_true rfl) (Nat.le_of_ble_eq_true rfl) ?_
  refine va_putF (D := (dC, dI)) (ci := 8) (v := .ref q_2) (C := RX8) (T := TX8) (N := 13) hx hb hts (fun _ h9 => List.mem_cons_of_mem _ (List.mem_append_right _ h9)) tyX8 tyX8_ok nmX8 hown hK hP hD hS 0 rfl rfl 9 (by decide) (hts (.fieldLink RX8 41 "SeatsRound$Table" "odds" "[I") (List.mem_of_getElem? (i := 14) rfl)) (fun _ h9 => h9) rfl hin rfl (tyX8_ok 9 (by decide)) rfl rfl (Nat.le_of_ble_eq_true rfl) dX8_init_57 (fun H locs hP hD hS => ?_)
  have hP : va_P (dC, dI) vwCl [(h0, .inr (8, [.int 0, .int 0, .int 1, .int 1, .int 0, .int 0, .int 0, .int 0, .ref q_1, .ref q_2, .null, .null, .null])), (q_2, .inl (cy 0, 12, .inl (fun _ => 0)))] H := hP
  have hD : va_D A [(h0, .inr (8, [.int 0, .int 0, .int 1, .int 1, .int 0, .int 0, .int 0, .int 0, .ref q_1, .ref q_2, .null, .null, .null])), (q_2, .inl (cy 0, 12, .inl (fun _ => 0)))] := hD
  have hP := hP.sub (ws' := [(h0, .inr (8, [.int 0, .int 0, .int 1, .int 1, .int 0, .int 0, .int 0, .int 0, .ref q_1, .ref q_2, .null, .null, .null]))]) [0] rfl
  have hD := hD.sub (ws' := [(h0, .inr (8, [.int 0, .int 0, .int 1, .int 1, .int 0, .int 0, .int 0, .int 0, .ref q_1, .ref q_2, .null, .null, .null]))]) [0] (by decide) rfl
  refine lv_aload_n hx hb dX8_init_60 rfl (lv_at hl 0 rfl) ?_
  refine lv_bipush (v := 80) hx hb dX8_init_61 (by decide) ?_
  change W _ _ _ _ _ _ _ _ _ _ _ _ _ _ _ (F0 m 63 ls [.int 80, .ref h0])
  refine vz_newa (atype := .byte) (ty := .byte) (t0 := 1) (N' := 80) (a0 := (80, .inl (fun _ => 0))) hx hb (hts (.arrayClass .byte) (List.mem_of_getElem? (i := 15) rfl)) rfl rfl hK hP hD hS hA (fun _ => rfl) (by decide) rfl (by decide) (Nat.le_of_ble_eq_true rfl) (Nat.le_of_ble_eq_true rfl) dX8_init_63 (fun q_3 H hP hD hS => ?_)
  have hP : va_P (dC, dI) vwCl [(h0, .inr (8, [.int 0, .int 0, .int 1, .int 1, .int 0, .int 0, .int 0, .int 0, .ref q_1, .ref q_2, .null, .null, .null])), (q_3, .inl (cy 1, 80, .inl (fun _ => 0)))] H := hP
  have hD : va_D A [(h0, .inr (8, [.int 0, .int 0, .int 1, .int 1, .int 0, .int 0, .int 0, .int 0, .ref q_1, .ref q_2, .null, .null, .null])), (q_3, .inl (cy 1, 80, .inl (fun _ => 0)))] := hD
  refine W.widen (k := 3) (n := 104) (Nat.le_of_ble_eq_true rfl) (Nat.le_of_ble_eq_true rfl) ?_
  refine va_putF (D := (dC, dI)) (ci := 8) (v := .ref q_3) (C := RX8) (T := TX8) (N := 13) hx hb hts (fun _ h9 => List.mem_cons_of_mem _ (List.mem_append_right _ h9)) tyX8 tyX8_ok nmX8 hown hK hP hD hS 0 rfl rfl 10 (by decide) (hts (.fieldLink RX8 44 "SeatsRound$Table" "law" "[B") (List.mem_of_getElem? (i := 16) rfl)) (fun _ h9 => h9) rfl hin rfl (tyX8_ok 10 (by decide)) rfl rfl (Nat.le_of_ble_eq_true rfl) dX8_init_65 (fun H locs hP hD hS => ?_)
  have hP : va_P (dC, dI) vwCl [(h0, .inr (8, [.int 0, .int 0, .int 1, .int 1, .int 0, .int 0, .int 0, .int 0, .ref q_1, .ref q_2, .ref q_3, .null, .null])), (q_3, .inl (cy 1, 80, .inl (fun _ => 0)))] H := hP
  have hD : va_D A [(h0, .inr (8, [.int 0, .int 0, .int 1, .int 1, .int 0, .int 0, .int 0, .int 0, .ref q_1, .ref q_2, .ref q_3, .null, .null])), (q_3, .inl (cy 1, 80, .inl (fun _ => 0)))] := hD
  have hP := hP.sub (ws' := [(h0, .inr (8, [.int 0, .int 0, .int 1, .int 1, .int 0, .int 0, .int 0, .int 0, .ref q_1, .ref q_2, .ref q_3, .null, .null]))]) [0] rfl
  have hD := hD.sub (ws' := [(h0, .inr (8, [.int 0, .int 0, .int 1, .int 1, .int 0, .int 0, .int 0, .int 0, .ref q_1, .ref q_2, .ref q_3, .null, .null]))]) [0] (by decide) rfl
  refine lv_aload_n hx hb dX8_init_68 rfl (lv_at hl 0 rfl) ?_
  refine lv_sipush (v := 1000) hx hb dX8_init_69 (by decide) ?_
  refine vz_newa (atype := .byte) (ty := .byte) (t0 := 1) (N' := 1000) (a0 := (1000, .inl (fun _ => 0))) hx hb (hts (.arrayClass .byte) (List.mem_of_getElem? (i := 15) rfl)) rfl rfl hK hP hD hS hA (fun _ => rfl) (by decide) rfl (by decide) (Nat.le_of_ble_eq_true rfl) (Nat.le_of_ble_eq_true rfl) dX8_init_72 (fun q_4 H hP hD hS => ?_)
  have hP : va_P (dC, dI) vwCl [(h0, .inr (8, [.int 0, .int 0, .int 1, .int 1, .int 0, .int 0, .int 0, .int 0, .ref q_1, .ref q_2, .ref q_3, .null, .null])), (q_4, .inl (cy 1, 1000, .inl (fun _ => 0)))] H := hP
  have hD : va_D A [(h0, .inr (8, [.int 0, .int 0, .int 1, .int 1, .int 0, .int 0, .int 0, .int 0, .ref q_1, .ref q_2, .ref q_3, .null, .null])), (q_4, .inl (cy 1, 1000, .inl (fun _ => 0)))] := hD
  refine W.widen (k := 4) (n := 1104) (Nat.le_of_ble_eq_true rfl) (Nat.le_of_ble_eq_true rfl) ?_
  refine va_putF (D := (dC, dI)) (ci := 8) (v := .ref q_4) (C := RX8) (T := TX8) (N := 13) hx hb hts (fun _ h9 => List.mem_cons_of_mem _ (List.mem_append_right _ h9)) tyX8 tyX8_ok nmX8 hown hK hP hD hS 0 rfl rfl 11 (by decide) (hts (.fieldLink RX8 48 "SeatsRound$Table" "owner" "[B") (List.mem_of_getElem? (i := 17) rfl)) (fun _ h9 => h9) rfl hin rfl (tyX8_ok 11 (by decide)) rfl rfl (Nat.le_of_ble_eq_true rfl) dX8_init_74 (fun H locs hP hD hS => ?_)
  have hP : va_P (dC, dI) vwCl [(h0, .inr (8, [.int 0, .int 0, .int 1, .int 1, .int 0, .int 0, .int 0, .int 0, .ref q_1, .ref q_2, .ref q_3, .ref q_4, .null])), (q_4, .inl (cy 1, 1000, .inl (fun _ => 0)))] H := hP
  have hD : va_D A [(h0, .inr (8, [.int 0, .int 0, .int 1, .int 1, .int 0, .int 0, .int 0, .int 0, .ref q_1, .ref q_2, .ref q_3, .ref q_4, .null])), (q_4, .inl (cy 1, 1000, .inl (fun _ => 0)))] := hD
  have hP := hP.sub (ws' := [(h0, .inr (8, [.int 0, .int 0, .int 1, .int 1, .int 0, .int 0, .int 0, .int 0, .ref q_1, .ref q_2, .ref q_3, .ref q_4, .null]))]) [0] rfl
  have hD := hD.sub (ws' := [(h0, .inr (8, [.int 0, .int 0, .int 1, .int 1, .int 0, .int 0, .int 0, .int 0, .ref q_1, .ref q_2, .ref q_3, .ref q_4, .null]))]) [0] (by decide) rfl
  refine lv_aload_n hx hb dX8_init_77 rfl (lv_at hl 0 rfl) ?_
  refine lv_sipush (v := 1000) hx hb dX8_init_78 (by decide) ?_
  change W _ _ _ _ _ _ _ _ _ _ _ _ _ _ _ (F0 m 81 ls [.int 1000, .ref h0])
  refine vz_newa (atype := .short) (ty := .short) (t0 := 3) (N' := 1000) (a0 := (1000, .inl (fun _ => 0))) hx hb (hts (.arrayClass .short) (List.mem_of_getElem? (i := 18) rfl)) rfl rfl hK hP hD hS hA (fun _ => rfl) (by decide) rfl (by decide) (Nat.le_of_ble_eq_true rfl) (Nat.le_of_ble_eq_true rfl) dX8_init_81 (fun q_5 H hP hD hS => ?_)
  have hP : va_P (dC, dI) vwCl [(h0, .inr (8, [.int 0, .int 0, .int 1, .int 1, .int 0, .int 0, .int 0, .int 0, .ref q_1, .ref q_2, .ref q_3, .ref q_4, .null])), (q_5, .inl (cy 3, 1000, .inl (fun _ => 0)))] H := hP
  have hD : va_D A [(h0, .inr (8, [.int 0, .int 0, .int 1, .int 1, .int 0, .int 0, .int 0, .int 0, .ref q_1, .ref q_2, .ref q_3, .ref q_4, .null])), (q_5, .inl (cy 3, 1000, .inl (fun _ => 0)))] := hD
  refine W.widen (k := 5) (n := 2104) (Nat.le_of_ble_eq_true rfl) (Nat.le_of_ble_eq_true rfl) ?_
  refine va_putF (D := (dC, dI)) (ci := 8) (v := .ref q_5) (C := RX8) (T := TX8) (N := 13) hx hb hts (fun _ h9 => List.mem_cons_of_mem _ (List.mem_append_right _ h9)) tyX8 tyX8_ok nmX8 hown hK hP hD hS 0 rfl rfl 12 (by decide) (hts (.fieldLink RX8 51 "SeatsRound$Table" "ahead" "[S") (List.mem_of_getElem? (i := 19) rfl)) (fun _ h9 => h9) rfl hin rfl (tyX8_ok 12 (by decide)) rfl rfl (Nat.le_of_ble_eq_true rfl) dX8_init_83 (fun H locs hP hD hS => ?_)
  have hP : va_P (dC, dI) vwCl [(h0, .inr (8, [.int 0, .int 0, .int 1, .int 1, .int 0, .int 0, .int 0, .int 0, .ref q_1, .ref q_2, .ref q_3, .ref q_4, .ref q_5])), (q_5, .inl (cy 3, 1000, .inl (fun _ => 0)))] H := hP
  have hD : va_D A [(h0, .inr (8, [.int 0, .int 0, .int 1, .int 1, .int 0, .int 0, .int 0, .int 0, .ref q_1, .ref q_2, .ref q_3, .ref q_4, .ref q_5])), (q_5, .inl (cy 3, 1000, .inl (fun _ => 0)))] := hD
  have hP := hP.sub (ws' := [(h0, .inr (8, [.int 0, .int 0, .int 1, .int 1, .int 0, .int 0, .int 0, .int 0, .ref q_1, .ref q_2, .ref q_3, .ref q_4, .ref q_5]))]) [0] rfl
  have hD := hD.sub (ws' := [(h0, .inr (8, [.int 0, .int 0, .int 1, .int 1, .int 0, .int 0, .int 0, .int 0, .ref q_1, .ref q_2, .ref q_3, .ref q_4, .ref q_5]))]) [0] (by decide) rfl
  have hP9 := hP.sub (ws' := []) [] rfl
  have hD9 := hD.sub (ws' := []) [] (by decide) rfl
  exact W.vret hx hb hr (fun t ht hW => ⟨⟨(fun k => [q_1, q_2, q_3, q_4, q_5].getD k 0), rfl, trivial, ⟨by rw [ht]; exact hP9, hD9⟩⟩, hS.F ht⟩) hS.2.2 dX8_init_86
set_option maxHeartbeats 4000000 in
set_option maxRecDepth 100000 in
theorem c_Parcels_init (l : Launch) (dC : Nat → ClassId) (dI : Nat → Nat → Nat) (cy : Nat → ClassId) (h0 : Nat) (k0 : Nat) (k1 : Nat) (k2 : Nat) (sz : Nat)  : Met l yX6_init wsX6_init ({ frames := 1, cells := 68, slots := 2532, locals := 23 }) (va_Pc [.ref h0, .ref k0, .ref k1, .ref k2] (wPre (dC, dI) cy [(h0, .inr (6, [.null, .null, .null, .null, .null, .null, .null, .null, .int 0, .null, .null, .null]))] sz)) (va_Qv (fun (u : Nat → Nat) => True) (fun (u : Nat → Nat) t => wAt (dC, dI) (va_A [(h0, .inr (6, [.null, .null, .null, .null, .null, .null, .null, .null, .int 0, .null, .null, .null]))] sz) [(h0, .inr (6, [.ref (u 0), .ref (u 1), .ref (u 2), .ref (u 3), .ref (u 4), .ref (u 5), .ref (u 6), .ref (u 7), .int 0, .ref k0, .ref k1, .ref k2]))] t) (va_A [(h0, .inr (6, [.null, .null, .null, .null, .null, .null, .null, .null, .int 0, .null, .null, .null]))] sz)) 68 2532 (va_A [(h0, .inr (6, [.null, .null, .null, .null, .null, .null, .null, .null, .int 0, .null, .null, .null]))] sz) := by
  refine Met.ofW (cc := cX6_init) (maxL := 4) (ret := none) (by decide) rfl ?_
  intro p e s m args below meth c s₁ B hml hv
  obtain ⟨rfl, hsz, hP, hK, hD0, hN⟩ := hv
  have hx := B.exec
  have hb := B.bytes
  have hr := B.returns
  have hts := atoms_spec (ws := wsX6_init) B.pre
  have hown : s.vm.findClass RX6 = some m.cls := findClass_of_methodNamed B.named
  have hlocks := B.notSynchronized
  subst hsz
  have hin : meth.name = "<init>" := (name_of_methodNamed B.named B.method).1
  have hD := hD0.self (sz := s.heap.size)
  generalize hAe : va_A [(h0, .inr (6, [.null, .null, .null, .null, .null, .null, .null, .null, .int 0, .null, .null, .null]))] s.heap.size = A at hD ⊢
  have hA : ∀ q : Nat, s.heap.size ≤ q → A q := fun q h => by rw [← hAe]; exact Or.inr h
  have hS : va_S A s.heap s.heap [] := va_S.rf
  have hl := lv_entry ([.ref h0, .ref k0, .ref k1, .ref k2]) (n := 4) (Nat.le_of_ble_eq_true rfl)
  rw [lg_entry_eq]
  generalize (lg_sl ([.ref h0, .ref k0, .ref k1, .ref k2]) ++ List.replicate (4 - (lg_sl ([.ref h0, .ref k0, .ref k1, .ref k2])).length) Slot.unset).toArray = ls at hl ⊢
  have hl : lv_has ls 4 [(0, .ref h0), (1, .ref k0), (2, .ref k1), (3, .ref k2)] := hl
  refine lv_aload_n hx hb dX6_init_0 rfl (lv_at hl 0 rfl) ?_
  refine W.objInit hx hb hown (hts (.methodLink RX6 3 objectInit) (List.mem_of_getElem? (i := 1) rfl)) (hts (.instanceMethod objectInit) (List.mem_of_getElem? (i := 2) rfl)) (hts (.code objectInit ⟨#[0xb1]⟩ 1 none) (List.mem_of_getElem? (i := 3) rfl)) rfl (hl.1.trans hml.symm) rfl dX6_init_1 (Nat.le_of_ble_eq_true rfl) (Nat.le_of_ble_eq_true rfl) ?_
  refine lv_aload_n hx hb dX6_init_4 rfl (lv_at hl 0 rfl) ?_
  change W _ _ _ _ _ _ _ _ _ _ _ _ _ _ _ (F0 m 5 ls [.ref h0])
  refine lv_bipush (v := 12) hx hb dX6_init_5 (by decide) ?_
  refine lv_bipush (v := 40) hx hb dX6_init_7 (by decide) ?_
  refine vz_mna (t0 := 6) (t1 := 0) (N' := 12) (K' := 40) (z := (40, .inl (fun _ => 0))) (ty := .int) hx hb hown (hts (.classLink RX6 9 "[[I") (List.mem_of_getElem? (i := 4) rfl)) hN.2.2.2.1 (hts (.arrayClass .int) (List.mem_of_getElem? (i := 5) rfl)) rfl (hK.2 0 _ rfl).2 hK hP hD hS hA (by decide) (by decide) rfl rfl (by decide) (by decide) (by decide) rfl rfl (Nat.le_of_ble_eq_true rfl) (Nat.le_of_ble_eq_true rfl) (fun _ => rfl) dX6_init_9 (fun q_1 r_2 H hP hD hS => ?_)
  have hP := va_P.take 2 hP
  have hD := va_D.take 2 hD
  have hP : va_P (dC, dI) vwCl [(h0, .inr (6, [.null, .null, .null, .null, .null, .null, .null, .null, .int 0, .null, .null, .null])), (q_1, .inl (cy 6, 12, .inr (.inr (.inr (.inr (fun i => if i < 12 then some (r_2 i) else none))))))] H := hP
  have hD : va_D A [(h0, .inr (6, [.null, .null, .null, .null, .null, .null, .null, .null, .int 0, .null, .null, .null])), (q_1, .inl (cy 6, 12, .inr (.inr (.inr (.inr (fun i => if i < 12 then some (r_2 i) else none))))))] := hD
  refine W.widen (k := 13) (n := 492) (Nat.le_of_ble_eq_true rfl) (Nat.le_of_ble_eq_true rfl) ?_
  refine va_putF (D := (dC, dI)) (ci := 6) (v := .ref q_1) (C := RX6) (T := TX6) (N := 12) hx hb hts (fun _ h9 => List.mem_cons_of_mem _ (List.mem_append_right _ h9)) tyX6 tyX6_ok nmX6 hown hK hP hD hS 0 rfl rfl 0 (by decide) (hts (.fieldLink RX6 11 "SeatsRound$Parcels" "version" "[[I") (List.mem_of_getElem? (i := 6) rfl)) (fun _ h9 => h9) rfl hin rfl (tyX6_ok 0 (by decide)) rfl rfl (Nat.le_of_ble_eq_true rfl) dX6_init_13 (fun H locs hP hD hS => ?_)
  have hP : va_P (dC, dI) vwCl [(h0, .inr (6, [.ref q_1, .null, .null, .null, .null, .null, .null, .null, .int 0, .null, .null, .null])), (q_1, .inl (cy 6, 12, .inr (.inr (.inr (.inr (fun i => if i < 12 then some (r_2 i) else none))))))] H := hP
  have hD : va_D A [(h0, .inr (6, [.ref q_1, .null, .null, .null, .null, .null, .null, .null, .int 0, .null, .null, .null])), (q_1, .inl (cy 6, 12, .inr (.inr (.inr (.inr (fun i => if i < 12 then some (r_2 i) else none))))))] := hD
  have hP := hP.sub (ws' := [(h0, .inr (6, [.ref q_1, .null, .null, .null, .null, .null, .null, .null, .int 0, .null, .null, .null]))]) [0] rfl
  have hD := hD.sub (ws' := [(h0, .inr (6, [.ref q_1, .null, .null, .null, .null, .null, .null, .null, .int 0, .null, .null, .null]))]) [0] (by decide) rfl
  refine lv_aload_n hx hb dX6_init_16 rfl (lv_at hl 0 rfl) ?_
  refine lv_bipush (v := 12) hx hb dX6_init_17 (by decide) ?_
  refine lv_bipush (v := 40) hx hb dX6_init_19 (by decide) ?_
  refine vz_mna (t0 := 6) (t1 := 0) (N' := 12) (K' := 40) (z := (40, .inl (fun _ => 0))) (ty := .int) hx hb hown (hts (.classLink RX6 9 "[[I") (List.mem_of_getElem? (i := 4) rfl)) hN.2.2.2.1 (hts (.arrayClass .int) (List.mem_of_getElem? (i := 5) rfl)) rfl (hK.2 0 _ rfl).2 hK hP hD hS hA (by decide) (by decide) rfl rfl (by decide) (by decide) (by decide) rfl rfl (Nat.le_of_ble_eq_true rfl) (Nat.le_of_ble_eq_true rfl) (fun _ => rfl) dX6_init_21 (fun q_3 r_4 H hP hD hS => ?_)
  have hP := va_P.take 2 hP
  have hD := va_D.take 2 hD
  have hP : va_P (dC, dI) vwCl [(h0, .inr (6, [.ref q_1, .null, .null, .null, .null, .null, .null, .null, .int 0, .null, .null, .null])), (q_3, .inl (cy 6, 12, .inr (.inr (.inr (.inr (fun i => if i < 12 then some (r_4 i) else none))))))] H := hP
  have hD : va_D A [(h0, .inr (6, [.ref q_1, .null, .null, .null, .null, .null, .null, .null, .int 0, .null, .null, .null])), (q_3, .inl (cy 6, 12, .inr (.inr (.inr (.inr (fun i => if i < 12 then some (r_4 i) else none))))))] := hD
  refine W.widen (k := 26) (n := 984) (Nat.le_of_ble_eq_true rfl) (Nat.le_of_ble_eq_true rfl) ?_
  change W _ _ _ _ _ _ _ _ _ _ _ _ _ _ _ (F0 m 25 ls [.ref q_3, .ref h0])
  refine va_putF (D := (dC, dI)) (ci := 6) (v := .ref q_3) (C := RX6) (T := TX6) (N := 12) hx hb hts (fun _ h9 => List.mem_cons_of_mem _ (List.mem_append_right _ h9)) tyX6 tyX6_ok nmX6 hown hK hP hD hS 0 rfl rfl 1 (by decide) (hts (.fieldLink RX6 16 "SeatsRound$Parcels" "kept" "[[I") (List.mem_of_getElem? (i := 7) rfl)) (fun _ h9 => h9) rfl hin rfl (tyX6_ok 1 (by decide)) rfl rfl (Nat.le_of_ble_eq_true rfl) dX6_init_25 (fun H locs hP hD hS => ?_)
  have hP : va_P (dC, dI) vwCl [(h0, .inr (6, [.ref q_1, .ref q_3, .null, .null, .null, .null, .null, .null, .int 0, .null, .null, .null])), (q_3, .inl (cy 6, 12, .inr (.inr (.inr (.inr (fun i => if i < 12 then some (r_4 i) else none))))))] H := hP
  have hD : va_D A [(h0, .inr (6, [.ref q_1, .ref q_3, .null, .null, .null, .null, .null, .null, .int 0, .null, .null, .null])), (q_3, .inl (cy 6, 12, .inr (.inr (.inr (.inr (fun i => if i < 12 then some (r_4 i) else none))))))] := hD
  have hP := hP.sub (ws' := [(h0, .inr (6, [.ref q_1, .ref q_3, .null, .null, .null, .null, .null, .null, .int 0, .null, .null, .null]))]) [0] rfl
  have hD := hD.sub (ws' := [(h0, .inr (6, [.ref q_1, .ref q_3, .null, .null, .null, .null, .null, .null, .int 0, .null, .null, .null]))]) [0] (by decide) rfl
  refine lv_aload_n hx hb dX6_init_28 rfl (lv_at hl 0 rfl) ?_
  refine lv_bipush (v := 12) hx hb dX6_init_29 (by decide) ?_
  refine lv_bipush (v := 40) hx hb dX6_init_31 (by decide) ?_
  refine vz_mna (t0 := 6) (t1 := 0) (N' := 12) (K' := 40) (z := (40, .inl (fun _ => 0))) (ty := .int) hx hb hown (hts (.classLink RX6 9 "[[I") (List.mem_of_getElem? (i := 4) rfl)) hN.2.2.2.1 (hts (.arrayClass .int) (List.mem_of_getElem? (i := 5) rfl)) rfl (hK.2 0 _ rfl).2 hK hP hD hS hA (by decide) (by decide) rfl rfl (by decide) (by decide) (by decide) rfl rfl (Nat.le_of_ble_eq_true rfl) (Nat.le_of_ble_eq_true rfl) (fun _ => rfl) dX6_init_33 (fun q_5 r_6 H hP hD hS => ?_)
  have hP := va_P.take 2 hP
  have hD := va_D.take 2 hD
  have hP : va_P (dC, dI) vwCl [(h0, .inr (6, [.ref q_1, .ref q_3, .null, .null, .null, .null, .null, .null, .int 0, .null, .null, .null])), (q_5, .inl (cy 6, 12, .inr (.inr (.inr (.inr (fun i => if i < 12 then some (r_6 i) else none))))))] H := hP
  have hD : va_D A [(h0, .inr (6, [.ref q_1, .ref q_3, .null, .null, .null, .null, .null, .null, .int 0, .null, .null, .null])), (q_5, .inl (cy 6, 12, .inr (.inr (.inr (.inr (fun i => if i < 12 then some (r_6 i) else none))))))] := hD
  refine W.widen (k := 39) (n := 1476) (Nat.le_of_ble_eq_true rfl) (Nat.le_of_ble_eq_true rfl) ?_
  refine va_putF (D := (dC, dI)) (ci := 6) (v := .ref q_5) (C := RX6) (T := TX6) (N := 12) hx hb hts (fun _ h9 => List.mem_cons_of_mem _ (List.mem_append_right _ h9)) tyX6 tyX6_ok nmX6 hown hK hP hD hS 0 rfl rfl 2 (by decide) (hts (.fieldLink RX6 19 "SeatsRound$Parcels" "keptFor" "[[I") (List.mem_of_getElem? (i := 8) rfl)) (fun _ h9 => h9) rfl hin rfl (tyX6_ok 2 (by decide)) rfl rfl (Nat.le_of_ble_eq_true rfl) dX6_init_37 (fun H locs hP hD hS => ?_)
  have hP : va_P (dC, dI) vwCl [(h0, .inr (6, [.ref q_1, .ref q_3, .ref q_5, .null, .null, .null, .null, .null, .int 0, .null, .null, .null])), (q_5, .inl (cy 6, 12, .inr (.inr (.inr (.inr (fun i => if i < 12 then some (r_6 i) else none))))))] H := hP
  have hD : va_D A [(h0, .inr (6, [.ref q_1, .ref q_3, .ref q_5, .null, .null, .null, .null, .null, .int 0, .null, .null, .null])), (q_5, .inl (cy 6, 12, .inr (.inr (.inr (.inr (fun i => if i < 12 then some (r_6 i) else none))))))] := hD
  have hP := hP.sub (ws' := [(h0, .inr (6, [.ref q_1, .ref q_3, .ref q_5, .null, .null, .null, .null, .null, .int 0, .null, .null, .null]))]) [0] rfl
  have hD := hD.sub (ws' := [(h0, .inr (6, [.ref q_1, .ref q_3, .ref q_5, .null, .null, .null, .null, .null, .int 0, .null, .null, .null]))]) [0] (by decide) rfl
  refine lv_aload_n hx hb dX6_init_40 rfl (lv_at hl 0 rfl) ?_
  refine lv_bipush (v := 12) hx hb dX6_init_41 (by decide) ?_
  change W _ _ _ _ _ _ _ _ _ _ _ _ _ _ _ (F0 m 43 ls [.int 12, .ref h0])
  refine lv_bipush (v := 40) hx hb dX6_init_43 (by decide) ?_
  refine vz_mna (t0 := 6) (t1 := 0) (N' := 12) (K' := 40) (z := (40, .inl (fun _ => 0))) (ty := .int) hx hb hown (hts (.classLink RX6 9 "[[I") (List.mem_of_getElem? (i := 4) rfl)) hN.2.2.2.1 (hts (.arrayClass .int) (List.mem_of_getElem? (i := 5) rfl)) rfl (hK.2 0 _ rfl).2 hK hP hD hS hA (by decide) (by decide) rfl rfl (by decide) (by decide) (by decide) rfl rfl (Nat.le_of_ble_eq_true rfl) (Nat.le_of_ble_eq_true rfl) (fun _ => rfl) dX6_init_45 (fun q_7 r_8 H hP hD hS => ?_)
  have hP := va_P.take 2 hP
  have hD := va_D.take 2 hD
  have hP : va_P (dC, dI) vwCl [(h0, .inr (6, [.ref q_1, .ref q_3, .ref q_5, .null, .null, .null, .null, .null, .int 0, .null, .null, .null])), (q_7, .inl (cy 6, 12, .inr (.inr (.inr (.inr (fun i => if i < 12 then some (r_8 i) else none))))))] H := hP
  have hD : va_D A [(h0, .inr (6, [.ref q_1, .ref q_3, .ref q_5, .null, .null, .null, .null, .null, .int 0, .null, .null, .null])), (q_7, .inl (cy 6, 12, .inr (.inr (.inr (.inr (fun i => if i < 12 then some (r_8 i) else none))))))] := hD
  refine W.widen (k := 52) (n := 1968) (Nat.le_of_ble_eq_true rfl) (Nat.le_of_ble_eq_true rfl) ?_
  refine va_putF (D := (dC, dI)) (ci := 6) (v := .ref q_7) (C := RX6) (T := TX6) (N := 12) hx hb hts (fun _ h9 => List.mem_cons_of_mem _ (List.mem_append_right _ h9)) tyX6 tyX6_ok nmX6 hown hK hP hD hS 0 rfl rfl 3 (by decide) (hts (.fieldLink RX6 22 "SeatsRound$Parcels" "pieces" "[[I") (List.mem_of_getElem? (i := 9) rfl)) (fun _ h9 => h9) rfl hin rfl (tyX6_ok 3 (by decide)) rfl rfl (Nat.le_of_ble_eq_true rfl) dX6_init_49 (fun H locs hP hD hS => ?_)
  have hP : va_P (dC, dI) vwCl [(h0, .inr (6, [.ref q_1, .ref q_3, .ref q_5, .ref q_7, .null, .null, .null, .null, .int 0, .null, .null, .null])), (q_7, .inl (cy 6, 12, .inr (.inr (.inr (.inr (fun i => if i < 12 then some (r_8 i) else none))))))] H := hP
  have hD : va_D A [(h0, .inr (6, [.ref q_1, .ref q_3, .ref q_5, .ref q_7, .null, .null, .null, .null, .int 0, .null, .null, .null])), (q_7, .inl (cy 6, 12, .inr (.inr (.inr (.inr (fun i => if i < 12 then some (r_8 i) else none))))))] := hD
  have hP := hP.sub (ws' := [(h0, .inr (6, [.ref q_1, .ref q_3, .ref q_5, .ref q_7, .null, .null, .null, .null, .int 0, .null, .null, .null]))]) [0] rfl
  have hD := hD.sub (ws' := [(h0, .inr (6, [.ref q_1, .ref q_3, .ref q_5, .ref q_7, .null, .null, .null, .null, .int 0, .null, .null, .null]))]) [0] (by decide) rfl
  refine lv_aload_n hx hb dX6_init_52 rfl (lv_at hl 0 rfl) ?_
  refine lv_bipush (v := 12) hx hb dX6_init_53 (by decide) ?_
  refine lv_bipush (v := 40) hx hb dX6_init_55 (by decide) ?_
  refine vz_mna (t0 := 6) (t1 := 0) (N' := 12) (K' := 40) (z := (40, .inl (fun _ => 0))) (ty := .int) hx hb hown (hts (.classLink RX6 9 "[[I") (List.mem_of_getElem? (i := 4) rfl)) hN.2.2.2.1 (hts (.arrayClass .int) (List.mem_of_getElem? (i := 5) rfl)) rfl (hK.2 0 _ rfl).2 hK hP hD hS hA (by decide) (by decide) rfl rfl (by decide) (by decide) (by decide) rfl rfl (Nat.le_of_ble_eq_true rfl) (Nat.le_of_ble_eq_true rfl) (fun _ => rfl) dX6_init_57 (fun q_9 r_10 H hP hD hS => ?_)
  have hP := va_P.take 2 hP
  have hD := va_D.take 2 hD
  have hP : va_P (dC, dI) vwCl [(h0, .inr (6, [.ref q_1, .ref q_3, .ref q_5, .ref q_7, .null, .null, .null, .null, .int 0, .null, .null, .null])), (q_9, .inl (cy 6, 12, .inr (.inr (.inr (.inr (fun i => if i < 12 then some (r_10 i) else none))))))] H := hP
  have hD : va_D A [(h0, .inr (6, [.ref q_1, .ref q_3, .ref q_5, .ref q_7, .null, .null, .null, .null, .int 0, .null, .null, .null])), (q_9, .inl (cy 6, 12, .inr (.inr (.inr (.inr (fun i => if i < 12 then some (r_10 i) else none))))))] := hD
  refine W.widen (k := 65) (n := 2460) (Nat.le_of_ble_eq_true rfl) (Nat.le_of_ble_eq_true rfl) ?_
  refine va_putF (D := (dC, dI)) (ci := 6) (v := .ref q_9) (C := RX6) (T := TX6) (N := 12) hx hb hts (fun _ h9 => List.mem_cons_of_mem _ (List.mem_append_right _ h9)) tyX6 tyX6_ok nmX6 hown hK hP hD hS 0 rfl rfl 4 (by decide) (hts (.fieldLink RX6 25 "SeatsRound$Parcels" "pieceTo" "[[I") (List.mem_of_getElem? (i := 10) rfl)) (fun _ h9 => h9) rfl hin rfl (tyX6_ok 4 (by decide)) rfl rfl (Nat.le_of_ble_eq_true rfl) dX6_init_61 (fun H locs hP hD hS => ?_)
  have hP : va_P (dC, dI) vwCl [(h0, .inr (6, [.ref q_1, .ref q_3, .ref q_5, .ref q_7, .ref q_9, .null, .null, .null, .int 0, .null, .null, .null])), (q_9, .inl (cy 6, 12, .inr (.inr (.inr (.inr (fun i => if i < 12 then some (r_10 i) else none))))))] H := hP
  have hD : va_D A [(h0, .inr (6, [.ref q_1, .ref q_3, .ref q_5, .ref q_7, .ref q_9, .null, .null, .null, .int 0, .null, .null, .null])), (q_9, .inl (cy 6, 12, .inr (.inr (.inr (.inr (fun i => if i < 12 then some (r_10 i) else none))))))] := hD
  have hP := hP.sub (ws' := [(h0, .inr (6, [.ref q_1, .ref q_3, .ref q_5, .ref q_7, .ref q_9, .null, .null, .null, .int 0, .null, .null, .null]))]) [0] rfl
  have hD := hD.sub (ws' := [(h0, .inr (6, [.ref q_1, .ref q_3, .ref q_5, .ref q_7, .ref q_9, .null, .null, .null, .int 0, .null, .null, .null]))]) [0] (by decide) rfl
  change W _ _ _ _ _ _ _ _ _ _ _ _ _ _ _ (F0 m 64 ls [])
  refine lv_aload_n hx hb dX6_init_64 rfl (lv_at hl 0 rfl) ?_
  refine lv_bipush (v := 40) hx hb dX6_init_65 (by decide) ?_
  refine vz_newa (atype := .int) (ty := .int) (t0 := 0) (N' := 40) (a0 := (40, .inl (fun _ => 0))) hx hb (hts (.arrayClass .int) (List.mem_of_getElem? (i := 5) rfl)) rfl rfl hK hP hD hS hA (fun _ => rfl) (by decide) rfl (by decide) (Nat.le_of_ble_eq_true rfl) (Nat.le_of_ble_eq_true rfl) dX6_init_67 (fun q_11 H hP hD hS => ?_)
  have hP : va_P (dC, dI) vwCl [(h0, .inr (6, [.ref q_1, .ref q_3, .ref q_5, .ref q_7, .ref q_9, .null, .null, .null, .int 0, .null, .null, .null])), (q_11, .inl (cy 0, 40, .inl (fun _ => 0)))] H := hP
  have hD : va_D A [(h0, .inr (6, [.ref q_1, .ref q_3, .ref q_5, .ref q_7, .ref q_9, .null, .null, .null, .int 0, .null, .null, .null])), (q_11, .inl (cy 0, 40, .inl (fun _ => 0)))] := hD
  refine W.widen (k := 66) (n := 2500) (Nat.le_of_ble_eq_true rfl) (Nat.le_of_ble_eq_true rfl) ?_
  refine va_putF (D := (dC, dI)) (ci := 6) (v := .ref q_11) (C := RX6) (T := TX6) (N := 12) hx hb hts (fun _ h9 => List.mem_cons_of_mem _ (List.mem_append_right _ h9)) tyX6 tyX6_ok nmX6 hown hK hP hD hS 0 rfl rfl 5 (by decide) (hts (.fieldLink RX6 28 "SeatsRound$Parcels" "latest" "[I") (List.mem_of_getElem? (i := 11) rfl)) (fun _ h9 => h9) rfl hin rfl (tyX6_ok 5 (by decide)) rfl rfl (Nat.le_of_ble_eq_true rfl) dX6_init_69 (fun H locs hP hD hS => ?_)
  have hP : va_P (dC, dI) vwCl [(h0, .inr (6, [.ref q_1, .ref q_3, .ref q_5, .ref q_7, .ref q_9, .ref q_11, .null, .null, .int 0, .null, .null, .null])), (q_11, .inl (cy 0, 40, .inl (fun _ => 0)))] H := hP
  have hD : va_D A [(h0, .inr (6, [.ref q_1, .ref q_3, .ref q_5, .ref q_7, .ref q_9, .ref q_11, .null, .null, .int 0, .null, .null, .null])), (q_11, .inl (cy 0, 40, .inl (fun _ => 0)))] := hD
  have hP := hP.sub (ws' := [(h0, .inr (6, [.ref q_1, .ref q_3, .ref q_5, .ref q_7, .ref q_9, .ref q_11, .null, .null, .int 0, .null, .null, .null]))]) [0] rfl
  have hD := hD.sub (ws' := [(h0, .inr (6, [.ref q_1, .ref q_3, .ref q_5, .ref q_7, .ref q_9, .ref q_11, .null, .null, .int 0, .null, .null, .null]))]) [0] (by decide) rfl
  refine lv_aload_n hx hb dX6_init_72 rfl (lv_at hl 0 rfl) ?_
  refine lv_bipush (v := 16) hx hb dX6_init_73 (by decide) ?_
  refine vz_newa (atype := .int) (ty := .int) (t0 := 0) (N' := 16) (a0 := (16, .inl (fun _ => 0))) hx hb (hts (.arrayClass .int) (List.mem_of_getElem? (i := 5) rfl)) rfl rfl hK hP hD hS hA (fun _ => rfl) (by decide) rfl (by decide) (Nat.le_of_ble_eq_true rfl) (Nat.le_of_ble_eq_true rfl) dX6_init_75 (fun q_12 H hP hD hS => ?_)
  have hP : va_P (dC, dI) vwCl [(h0, .inr (6, [.ref q_1, .ref q_3, .ref q_5, .ref q_7, .ref q_9, .ref q_11, .null, .null, .int 0, .null, .null, .null])), (q_12, .inl (cy 0, 16, .inl (fun _ => 0)))] H := hP
  have hD : va_D A [(h0, .inr (6, [.ref q_1, .ref q_3, .ref q_5, .ref q_7, .ref q_9, .ref q_11, .null, .null, .int 0, .null, .null, .null])), (q_12, .inl (cy 0, 16, .inl (fun _ => 0)))] := hD
  refine W.widen (k := 67) (n := 2516) (Nat.le_of_ble_eq_true rfl) (Nat.le_of_ble_eq_true rfl) ?_
  refine va_putF (D := (dC, dI)) (ci := 6) (v := .ref q_12) (C := RX6) (T := TX6) (N := 12) hx hb hts (fun _ h9 => List.mem_cons_of_mem _ (List.mem_append_right _ h9)) tyX6 tyX6_ok nmX6 hown hK hP hD hS 0 rfl rfl 6 (by decide) (hts (.fieldLink RX6 32 "SeatsRound$Parcels" "oneTree" "[I") (List.mem_of_getElem? (i := 12) rfl)) (fun _ h9 => h9) rfl hin rfl (tyX6_ok 6 (by decide)) rfl rfl (Nat.le_of_ble_eq_true rfl) dX6_init_77 (fun H locs hP hD hS => ?_)
  have hP : va_P (dC, dI) vwCl [(h0, .inr (6, [.ref q_1, .ref q_3, .ref q_5, .ref q_7, .ref q_9, .ref q_11, .ref q_12, .null, .int 0, .null, .null, .null])), (q_12, .inl (cy 0, 16, .inl (fun _ => 0)))] H := hP
  have hD : va_D A [(h0, .inr (6, [.ref q_1, .ref q_3, .ref q_5, .ref q_7, .ref q_9, .ref q_11, .ref q_12, .null, .int 0, .null, .null, .null])), (q_12, .inl (cy 0, 16, .inl (fun _ => 0)))] := hD
  have hP := hP.sub (ws' := [(h0, .inr (6, [.ref q_1, .ref q_3, .ref q_5, .ref q_7, .ref q_9, .ref q_11, .ref q_12, .null, .int 0, .null, .null, .null]))]) [0] rfl
  have hD := hD.sub (ws' := [(h0, .inr (6, [.ref q_1, .ref q_3, .ref q_5, .ref q_7, .ref q_9, .ref q_11, .ref q_12, .null, .int 0, .null, .null, .null]))]) [0] (by decide) rfl
  change W _ _ _ _ _ _ _ _ _ _ _ _ _ _ _ (F0 m 80 ls [])
  refine lv_aload_n hx hb dX6_init_80 rfl (lv_at hl 0 rfl) ?_
  refine lv_bipush (v := 16) hx hb dX6_init_81 (by decide) ?_
  refine vz_newa (atype := .int) (ty := .int) (t0 := 0) (N' := 16) (a0 := (16, .inl (fun _ => 0))) hx hb (hts (.arrayClass .int) (List.mem_of_getElem? (i := 5) rfl)) rfl rfl hK hP hD hS hA (fun _ => rfl) (by decide) rfl (by decide) (Nat.le_of_ble_eq_true rfl) (Nat.le_of_ble_eq_true rfl) dX6_init_83 (fun q_13 H hP hD hS => ?_)
  have hP : va_P (dC, dI) vwCl [(h0, .inr (6, [.ref q_1, .ref q_3, .ref q_5, .ref q_7, .ref q_9, .ref q_11, .ref q_12, .null, .int 0, .null, .null, .null])), (q_13, .inl (cy 0, 16, .inl (fun _ => 0)))] H := hP
  have hD : va_D A [(h0, .inr (6, [.ref q_1, .ref q_3, .ref q_5, .ref q_7, .ref q_9, .ref q_11, .ref q_12, .null, .int 0, .null, .null, .null])), (q_13, .inl (cy 0, 16, .inl (fun _ => 0)))] := hD
  refine W.widen (k := 68) (n := 2532) (Nat.le_of_ble_eq_true rfl) (Nat.le_of_ble_eq_true rfl) ?_
  refine va_putF (D := (dC, dI)) (ci := 6) (v := .ref q_13) (C := RX6) (T := TX6) (N := 12) hx hb hts (fun _ h9 => List.mem_cons_of_mem _ (List.mem_append_right _ h9)) tyX6 tyX6_ok nmX6 hown hK hP hD hS 0 rfl rfl 7 (by decide) (hts (.fieldLink RX6 35 "SeatsRound$Parcels" "otherTree" "[I") (List.mem_of_getElem? (i := 13) rfl)) (fun _ h9 => h9) rfl hin rfl (tyX6_ok 7 (by decide)) rfl rfl (Nat.le_of_ble_eq_true rfl) dX6_init_85 (fun H locs hP hD hS => ?_)
  have hP : va_P (dC, dI) vwCl [(h0, .inr (6, [.ref q_1, .ref q_3, .ref q_5, .ref q_7, .ref q_9, .ref q_11, .ref q_12, .ref q_13, .int 0, .null, .null, .null])), (q_13, .inl (cy 0, 16, .inl (fun _ => 0)))] H := hP
  have hD : va_D A [(h0, .inr (6, [.ref q_1, .ref q_3, .ref q_5, .ref q_7, .ref q_9, .ref q_11, .ref q_12, .ref q_13, .int 0, .null, .null, .null])), (q_13, .inl (cy 0, 16, .inl (fun _ => 0)))] := hD
  have hP := hP.sub (ws' := [(h0, .inr (6, [.ref q_1, .ref q_3, .ref q_5, .ref q_7, .ref q_9, .ref q_11, .ref q_12, .ref q_13, .int 0, .null, .null, .null]))]) [0] rfl
  have hD := hD.sub (ws' := [(h0, .inr (6, [.ref q_1, .ref q_3, .ref q_5, .ref q_7, .ref q_9, .ref q_11, .ref q_12, .ref q_13, .int 0, .null, .null, .null]))]) [0] (by decide) rfl
  refine lv_aload_n hx hb dX6_init_88 rfl (lv_at hl 0 rfl) ?_
  refine lv_iconst (v := 0) hx hb dX6_init_89 (by decide) ?_
  refine va_put (D := (dC, dI)) (ci := 6) (v := .int 0) (C := RX6) (T := TX6) (N := 12) hx hb hts (fun _ h9 => List.mem_cons_of_mem _ (List.mem_append_right _ h9)) tyX6 tyX6_ok nmX6 hown hK hP hD hS 0 rfl rfl 8 (by decide) (hts (.fieldLink RX6 38 "SeatsRound$Parcels" "writings" "I") (List.mem_of_getElem? (i := 14) rfl)) (fun _ h9 => h9) rfl (tyX6_ok 8 (by decide)) rfl rfl (Nat.le_of_ble_eq_true rfl) dX6_init_90 (fun H locs hP hD hS => ?_)
  have hP : va_P (dC, dI) vwCl [(h0, .inr (6, [.ref q_1, .ref q_3, .ref q_5, .ref q_7, .ref q_9, .ref q_11, .ref q_12, .ref q_13, .int 0, .null, .null, .null]))] H := hP
  have hD : va_D A [(h0, .inr (6, [.ref q_1, .ref q_3, .ref q_5, .ref q_7, .ref q_9, .ref q_11, .ref q_12, .ref q_13, .int 0, .null, .null, .null]))] := hD
  refine lv_aload_n hx hb dX6_init_93 rfl (lv_at hl 0 rfl) ?_
  change W _ _ _ _ _ _ _ _ _ _ _ _ _ _ _ (F0 m 94 ls [.ref h0])
  refine lv_aload_n hx hb dX6_init_94 rfl (lv_at hl 1 rfl) ?_
  refine va_putF (D := (dC, dI)) (ci := 6) (v := .ref k0) (C := RX6) (T := TX6) (N := 12) hx hb hts (fun _ h9 => List.mem_cons_of_mem _ (List.mem_append_right _ h9)) tyX6 tyX6_ok nmX6 hown hK hP hD hS 0 rfl rfl 9 (by decide) (hts (.fieldLink RX6 42 "SeatsRound$Parcels" "keepers" "LSeatsRound$Keepers;") (List.mem_of_getElem? (i := 15) rfl)) (fun _ h9 => h9) rfl hin rfl (tyX6_ok 9 (by decide)) rfl rfl (Nat.le_of_ble_eq_true rfl) dX6_init_95 (fun H locs hP hD hS => ?_)
  have hP : va_P (dC, dI) vwCl [(h0, .inr (6, [.ref q_1, .ref q_3, .ref q_5, .ref q_7, .ref q_9, .ref q_11, .ref q_12, .ref q_13, .int 0, .ref k0, .null, .null]))] H := hP
  have hD : va_D A [(h0, .inr (6, [.ref q_1, .ref q_3, .ref q_5, .ref q_7, .ref q_9, .ref q_11, .ref q_12, .ref q_13, .int 0, .ref k0, .null, .null]))] := hD
  refine lv_aload_n hx hb dX6_init_98 rfl (lv_at hl 0 rfl) ?_
  refine lv_aload_n hx hb dX6_init_99 rfl (lv_at hl 2 rfl) ?_
  refine va_putF (D := (dC, dI)) (ci := 6) (v := .ref k1) (C := RX6) (T := TX6) (N := 12) hx hb hts (fun _ h9 => List.mem_cons_of_mem _ (List.mem_append_right _ h9)) tyX6 tyX6_ok nmX6 hown hK hP hD hS 0 rfl rfl 10 (by decide) (hts (.fieldLink RX6 46 "SeatsRound$Parcels" "nameList" "LSeatsRound$NameList;") (List.mem_of_getElem? (i := 16) rfl)) (fun _ h9 => h9) rfl hin rfl (tyX6_ok 10 (by decide)) rfl rfl (Nat.le_of_ble_eq_true rfl) dX6_init_100 (fun H locs hP hD hS => ?_)
  have hP : va_P (dC, dI) vwCl [(h0, .inr (6, [.ref q_1, .ref q_3, .ref q_5, .ref q_7, .ref q_9, .ref q_11, .ref q_12, .ref q_13, .int 0, .ref k0, .ref k1, .null]))] H := hP
  have hD : va_D A [(h0, .inr (6, [.ref q_1, .ref q_3, .ref q_5, .ref q_7, .ref q_9, .ref q_11, .ref q_12, .ref q_13, .int 0, .ref k0, .ref k1, .null]))] := hD
  refine lv_aload_n hx hb dX6_init_103 rfl (lv_at hl 0 rfl) ?_
  refine lv_aload_n hx hb dX6_init_104 rfl (lv_at hl 3 rfl) ?_
  refine va_putF (D := (dC, dI)) (ci := 6) (v := .ref k2) (C := RX6) (T := TX6) (N := 12) hx hb hts (fun _ h9 => List.mem_cons_of_mem _ (List.mem_append_right _ h9)) tyX6 tyX6_ok nmX6 hown hK hP hD hS 0 rfl rfl 11 (by decide) (hts (.fieldLink RX6 50 "SeatsRound$Parcels" "choice" "LSeatsRound$Choice;") (List.mem_of_getElem? (i := 17) rfl)) (fun _ h9 => h9) rfl hin rfl (tyX6_ok 11 (by decide)) rfl rfl (Nat.le_of_ble_eq_true rfl) dX6_init_105 (fun H locs hP hD hS => ?_)
  have hP : va_P (dC, dI) vwCl [(h0, .inr (6, [.ref q_1, .ref q_3, .ref q_5, .ref q_7, .ref q_9, .ref q_11, .ref q_12, .ref q_13, .int 0, .ref k0, .ref k1, .ref k2]))] H := hP
  have hD : va_D A [(h0, .inr (6, [.ref q_1, .ref q_3, .ref q_5, .ref q_7, .ref q_9, .ref q_11, .ref q_12, .ref q_13, .int 0, .ref k0, .ref k1, .ref k2]))] := hD
  change W _ _ _ _ _ _ _ _ _ _ _ _ _ _ _ (F0 m 108 ls [])
  have hP9 := hP.sub (ws' := [(h0, .inr (6, [.ref q_1, .ref q_3, .ref q_5, .ref q_7, .ref q_9, .ref q_11, .ref q_12, .ref q_13, .int 0, .ref k0, .ref k1, .ref k2]))]) [0] rfl
  have hD9 := hD.sub (ws' := [(h0, .inr (6, [.ref q_1, .ref q_3, .ref q_5, .ref q_7, .ref q_9, .ref q_11, .ref q_12, .ref q_13, .int 0, .ref k0, .ref k1, .ref k2]))]) [0] (by decide) rfl
  exact W.vret hx hb hr (fun t ht hW => ⟨⟨(fun k => [q_1, q_3, q_5, q_7, q_9, q_11, q_12, q_13].getD k 0), rfl, trivial, ⟨by rw [ht]; exact hP9, hD9⟩⟩, hS.F ht⟩) hS.2.2 dX6_init_108
set_option maxHeartbeats 4000000 in
set_option maxRecDepth 100000 in
theorem c_Orders_init (l : Launch) (dC : Nat → ClassId) (dI : Nat → Nat → Nat) (cy : Nat → ClassId) (h0 : Nat) (k0 : Nat) (k1 : Nat) (k2 : Nat) (k3 : Nat) (sz : Nat)  : Met l yX5_init wsX5_init ({ frames := 1, cells := 36, slots := 1354, locals := 23 }) (va_Pc [.ref h0, .ref k0, .ref k1, .ref k2, .ref k3] (wPre (dC, dI) cy [(h0, .inr (5, [.null, .int 0, .null, .int 0, .null, .null, .null, .null, .null, .null]))] sz)) (va_Qv (fun (u : Nat → Nat) => True) (fun (u : Nat → Nat) t => wAt (dC, dI) (va_A [(h0, .inr (5, [.null, .int 0, .null, .int 0, .null, .null, .null, .null, .null, .null]))] sz) [(h0, .inr (5, [.ref (u 0), .int 0, .ref (u 1), .int 0, .ref (u 2), .ref (u 3), .ref k0, .ref k1, .ref k2, .ref k3]))] t) (va_A [(h0, .inr (5, [.null, .int 0, .null, .int 0, .null, .null, .null, .null, .null, .null]))] sz)) 36 1354 (va_A [(h0, .inr (5, [.null, .int 0, .null, .int 0, .null, .null, .null, .null, .null, .null]))] sz) := by
  refine Met.ofW (cc := cX5_init) (maxL := 5) (ret := none) (by decide) rfl ?_
  intro p e s m args below meth c s₁ B hml hv
  obtain ⟨rfl, hsz, hP, hK, hD0, hN⟩ := hv
  have hx := B.exec
  have hb := B.bytes
  have hr := B.returns
  have hts := atoms_spec (ws := wsX5_init) B.pre
  have hown : s.vm.findClass RX5 = some m.cls := findClass_of_methodNamed B.named
  have hlocks := B.notSynchronized
  subst hsz
  have hin : meth.name = "<init>" := (name_of_methodNamed B.named B.method).1
  have hD := hD0.self (sz := s.heap.size)
  generalize hAe : va_A [(h0, .inr (5, [.null, .int 0, .null, .int 0, .null, .null, .null, .null, .null, .null]))] s.heap.size = A at hD ⊢
  have hA : ∀ q : Nat, s.heap.size ≤ q → A q := fun q h => by rw [← hAe]; exact Or.inr h
  have hS : va_S A s.heap s.heap [] := va_S.rf
  have hl := lv_entry ([.ref h0, .ref k0, .ref k1, .ref k2, .ref k3]) (n := 5) (Nat.le_of_ble_eq_true rfl)
  rw [lg_entry_eq]
  generalize (lg_sl ([.ref h0, .ref k0, .ref k1, .ref k2, .ref k3]) ++ List.replicate (5 - (lg_sl ([.ref h0, .ref k0, .ref k1, .ref k2, .ref k3])).length) Slot.unset).toArray = ls at hl ⊢
  have hl : lv_has ls 5 [(0, .ref h0), (1, .ref k0), (2, .ref k1), (3, .ref k2), (4, .ref k3)] := hl
  refine lv_aload_n hx hb dX5_init_0 rfl (lv_at hl 0 rfl) ?_
  refine W.objInit hx hb hown (hts (.methodLink RX5 3 objectInit) (List.mem_of_getElem? (i := 1) rfl)) (hts (.instanceMethod objectInit) (List.mem_of_getElem? (i := 2) rfl)) (hts (.code objectInit ⟨#[0xb1]⟩ 1 none) (List.mem_of_getElem? (i := 3) rfl)) rfl (hl.1.trans hml.symm) rfl dX5_init_1 (Nat.le_of_ble_eq_true rfl) (Nat.le_of_ble_eq_true rfl) ?_
  refine lv_aload_n hx hb dX5_init_4 rfl (lv_at hl 0 rfl) ?_
  change W _ _ _ _ _ _ _ _ _ _ _ _ _ _ _ (F0 m 5 ls [.ref h0])
  refine lv_iconst (v := 5) hx hb dX5_init_5 (by decide) ?_
  refine vz_newa (atype := .int) (ty := .int) (t0 := 0) (N' := 5) (a0 := (5, .inl (fun _ => 0))) hx hb (hts (.arrayClass .int) (List.mem_of_getElem? (i := 4) rfl)) rfl rfl hK hP hD hS hA (fun _ => rfl) (by decide) rfl (by decide) (Nat.le_of_ble_eq_true rfl) (Nat.le_of_ble_eq_true rfl) dX5_init_6 (fun q_1 H hP hD hS => ?_)
  have hP : va_P (dC, dI) vwCl [(h0, .inr (5, [.null, .int 0, .null, .int 0, .null, .null, .null, .null, .null, .null])), (q_1, .inl (cy 0, 5, .inl (fun _ => 0)))] H := hP
  have hD : va_D A [(h0, .inr (5, [.null, .int 0, .null, .int 0, .null, .null, .null, .null, .null, .null])), (q_1, .inl (cy 0, 5, .inl (fun _ => 0)))] := hD
  refine W.widen (k := 1) (n := 5) (Nat.le_of_ble_eq_true rfl) (Nat.le_of_ble_eq_true rfl) ?_
  refine va_putF (D := (dC, dI)) (ci := 5) (v := .ref q_1) (C := RX5) (T := TX5) (N := 10) hx hb hts (fun _ h9 => List.mem_cons_of_mem _ (List.mem_append_right _ h9)) tyX5 tyX5_ok nmX5 hown hK hP hD hS 0 rfl rfl 0 (by decide) (hts (.fieldLink RX5 9 "SeatsRound$Orders" "told" "[I") (List.mem_of_getElem? (i := 5) rfl)) (fun _ h9 => h9) rfl hin rfl (tyX5_ok 0 (by decide)) rfl rfl (Nat.le_of_ble_eq_true rfl) dX5_init_8 (fun H locs hP hD hS => ?_)
  have hP : va_P (dC, dI) vwCl [(h0, .inr (5, [.ref q_1, .int 0, .null, .int 0, .null, .null, .null, .null, .null, .null])), (q_1, .inl (cy 0, 5, .inl (fun _ => 0)))] H := hP
  have hD : va_D A [(h0, .inr (5, [.ref q_1, .int 0, .null, .int 0, .null, .null, .null, .null, .null, .null])), (q_1, .inl (cy 0, 5, .inl (fun _ => 0)))] := hD
  have hP := hP.sub (ws' := [(h0, .inr (5, [.ref q_1, .int 0, .null, .int 0, .null, .null, .null, .null, .null, .null]))]) [0] rfl
  have hD := hD.sub (ws' := [(h0, .inr (5, [.ref q_1, .int 0, .null, .int 0, .null, .null, .null, .null, .null, .null]))]) [0] (by decide) rfl
  refine lv_aload_n hx hb dX5_init_11 rfl (lv_at hl 0 rfl) ?_
  refine lv_iconst (v := 0) hx hb dX5_init_12 (by decide) ?_
  refine va_put (D := (dC, dI)) (ci := 5) (v := .int 0) (C := RX5) (T := TX5) (N := 10) hx hb hts (fun _ h9 => List.mem_cons_of_mem _ (List.mem_append_right _ h9)) tyX5 tyX5_ok nmX5 hown hK hP hD hS 0 rfl rfl 1 (by decide) (hts (.fieldLink RX5 15 "SeatsRound$Orders" "toldCount" "I") (List.mem_of_getElem? (i := 6) rfl)) (fun _ h9 => h9) rfl (tyX5_ok 1 (by decide)) rfl rfl (Nat.le_of_ble_eq_true rfl) dX5_init_13 (fun H locs hP hD hS => ?_)
  have hP : va_P (dC, dI) vwCl [(h0, .inr (5, [.ref q_1, .int 0, .null, .int 0, .null, .null, .null, .null, .null, .null]))] H := hP
  have hD : va_D A [(h0, .inr (5, [.ref q_1, .int 0, .null, .int 0, .null, .null, .null, .null, .null, .null]))] := hD
  refine lv_aload_n hx hb dX5_init_16 rfl (lv_at hl 0 rfl) ?_
  refine lv_iconst (v := 5) hx hb dX5_init_17 (by decide) ?_
  change W _ _ _ _ _ _ _ _ _ _ _ _ _ _ _ (F0 m 18 ls [.int 5, .ref h0])
  refine vz_newa (atype := .int) (ty := .int) (t0 := 0) (N' := 5) (a0 := (5, .inl (fun _ => 0))) hx hb (hts (.arrayClass .int) (List.mem_of_getElem? (i := 4) rfl)) rfl rfl hK hP hD hS hA (fun _ => rfl) (by decide) rfl (by decide) (Nat.le_of_ble_eq_true rfl) (Nat.le_of_ble_eq_true rfl) dX5_init_18 (fun q_2 H hP hD hS => ?_)
  have hP : va_P (dC, dI) vwCl [(h0, .inr (5, [.ref q_1, .int 0, .null, .int 0, .null, .null, .null, .null, .null, .null])), (q_2, .inl (cy 0, 5, .inl (fun _ => 0)))] H := hP
  have hD : va_D A [(h0, .inr (5, [.ref q_1, .int 0, .null, .int 0, .null, .null, .null, .null, .null, .null])), (q_2, .inl (cy 0, 5, .inl (fun _ => 0)))] := hD
  refine W.widen (k := 2) (n := 10) (Nat.le_of_ble_eq_true rfl) (Nat.le_of_ble_eq_true rfl) ?_
  refine va_putF (D := (dC, dI)) (ci := 5) (v := .ref q_2) (C := RX5) (T := TX5) (N := 10) hx hb hts (fun _ h9 => List.mem_cons_of_mem _ (List.mem_append_right _ h9)) tyX5 tyX5_ok nmX5 hown hK hP hD hS 0 rfl rfl 2 (by decide) (hts (.fieldLink RX5 19 "SeatsRound$Orders" "path" "[I") (List.mem_of_getElem? (i := 7) rfl)) (fun _ h9 => h9) rfl hin rfl (tyX5_ok 2 (by decide)) rfl rfl (Nat.le_of_ble_eq_true rfl) dX5_init_20 (fun H locs hP hD hS => ?_)
  have hP : va_P (dC, dI) vwCl [(h0, .inr (5, [.ref q_1, .int 0, .ref q_2, .int 0, .null, .null, .null, .null, .null, .null])), (q_2, .inl (cy 0, 5, .inl (fun _ => 0)))] H := hP
  have hD : va_D A [(h0, .inr (5, [.ref q_1, .int 0, .ref q_2, .int 0, .null, .null, .null, .null, .null, .null])), (q_2, .inl (cy 0, 5, .inl (fun _ => 0)))] := hD
  have hP := hP.sub (ws' := [(h0, .inr (5, [.ref q_1, .int 0, .ref q_2, .int 0, .null, .null, .null, .null, .null, .null]))]) [0] rfl
  have hD := hD.sub (ws' := [(h0, .inr (5, [.ref q_1, .int 0, .ref q_2, .int 0, .null, .null, .null, .null, .null, .null]))]) [0] (by decide) rfl
  refine lv_aload_n hx hb dX5_init_23 rfl (lv_at hl 0 rfl) ?_
  refine lv_iconst (v := 0) hx hb dX5_init_24 (by decide) ?_
  refine va_put (D := (dC, dI)) (ci := 5) (v := .int 0) (C := RX5) (T := TX5) (N := 10) hx hb hts (fun _ h9 => List.mem_cons_of_mem _ (List.mem_append_right _ h9)) tyX5 tyX5_ok nmX5 hown hK hP hD hS 0 rfl rfl 3 (by decide) (hts (.fieldLink RX5 22 "SeatsRound$Orders" "pathLength" "I") (List.mem_of_getElem? (i := 8) rfl)) (fun _ h9 => h9) rfl (tyX5_ok 3 (by decide)) rfl rfl (Nat.le_of_ble_eq_true rfl) dX5_init_25 (fun H locs hP hD hS => ?_)
  have hP : va_P (dC, dI) vwCl [(h0, .inr (5, [.ref q_1, .int 0, .ref q_2, .int 0, .null, .null, .null, .null, .null, .null]))] H := hP
  have hD : va_D A [(h0, .inr (5, [.ref q_1, .int 0, .ref q_2, .int 0, .null, .null, .null, .null, .null, .null]))] := hD
  refine lv_aload_n hx hb dX5_init_28 rfl (lv_at hl 0 rfl) ?_
  refine lv_bipush (v := 32) hx hb dX5_init_29 (by decide) ?_
  refine lv_bipush (v := 40) hx hb dX5_init_31 (by decide) ?_
  change W _ _ _ _ _ _ _ _ _ _ _ _ _ _ _ (F0 m 33 ls [.int 40, .int 32, .ref h0])
  refine vz_mna (t0 := 6) (t1 := 0) (N' := 32) (K' := 40) (z := (40, .inl (fun _ => 0))) (ty := .int) hx hb hown (hts (.classLink RX5 25 "[[I") (List.mem_of_getElem? (i := 9) rfl)) hN.2.2.2.1 (hts (.arrayClass .int) (List.mem_of_getElem? (i := 4) rfl)) rfl (hK.2 0 _ rfl).2 hK hP hD hS hA (by decide) (by decide) rfl rfl (by decide) (by decide) (by decide) rfl rfl (Nat.le_of_ble_eq_true rfl) (Nat.le_of_ble_eq_true rfl) (fun _ => rfl) dX5_init_33 (fun q_3 r_4 H hP hD hS => ?_)
  have hP := va_P.take 2 hP
  have hD := va_D.take 2 hD
  have hP : va_P (dC, dI) vwCl [(h0, .inr (5, [.ref q_1, .int 0, .ref q_2, .int 0, .null, .null, .null, .null, .null, .null])), (q_3, .inl (cy 6, 32, .inr (.inr (.inr (.inr (fun i => if i < 32 then some (r_4 i) else none))))))] H := hP
  have hD : va_D A [(h0, .inr (5, [.ref q_1, .int 0, .ref q_2, .int 0, .null, .null, .null, .null, .null, .null])), (q_3, .inl (cy 6, 32, .inr (.inr (.inr (.inr (fun i => if i < 32 then some (r_4 i) else none))))))] := hD
  refine W.widen (k := 35) (n := 1322) (Nat.le_of_ble_eq_true rfl) (Nat.le_of_ble_eq_true rfl) ?_
  refine va_putF (D := (dC, dI)) (ci := 5) (v := .ref q_3) (C := RX5) (T := TX5) (N := 10) hx hb hts (fun _ h9 => List.mem_cons_of_mem _ (List.mem_append_right _ h9)) tyX5 tyX5_ok nmX5 hown hK hP hD hS 0 rfl rfl 4 (by decide) (hts (.fieldLink RX5 27 "SeatsRound$Orders" "holders" "[[I") (List.mem_of_getElem? (i := 10) rfl)) (fun _ h9 => h9) rfl hin rfl (tyX5_ok 4 (by decide)) rfl rfl (Nat.le_of_ble_eq_true rfl) dX5_init_37 (fun H locs hP hD hS => ?_)
  have hP : va_P (dC, dI) vwCl [(h0, .inr (5, [.ref q_1, .int 0, .ref q_2, .int 0, .ref q_3, .null, .null, .null, .null, .null])), (q_3, .inl (cy 6, 32, .inr (.inr (.inr (.inr (fun i => if i < 32 then some (r_4 i) else none))))))] H := hP
  have hD : va_D A [(h0, .inr (5, [.ref q_1, .int 0, .ref q_2, .int 0, .ref q_3, .null, .null, .null, .null, .null])), (q_3, .inl (cy 6, 32, .inr (.inr (.inr (.inr (fun i => if i < 32 then some (r_4 i) else none))))))] := hD
  have hP := hP.sub (ws' := [(h0, .inr (5, [.ref q_1, .int 0, .ref q_2, .int 0, .ref q_3, .null, .null, .null, .null, .null]))]) [0] rfl
  have hD := hD.sub (ws' := [(h0, .inr (5, [.ref q_1, .int 0, .ref q_2, .int 0, .ref q_3, .null, .null, .null, .null, .null]))]) [0] (by decide) rfl
  refine lv_aload_n hx hb dX5_init_40 rfl (lv_at hl 0 rfl) ?_
  refine lv_bipush (v := 32) hx hb dX5_init_41 (by decide) ?_
  refine vz_newa (atype := .int) (ty := .int) (t0 := 0) (N' := 32) (a0 := (32, .inl (fun _ => 0))) hx hb (hts (.arrayClass .int) (List.mem_of_getElem? (i := 4) rfl)) rfl rfl hK hP hD hS hA (fun _ => rfl) (by decide) rfl (by decide) (Nat.le_of_ble_eq_true rfl) (Nat.le_of_ble_eq_true rfl) dX5_init_43 (fun q_5 H hP hD hS => ?_)
  have hP : va_P (dC, dI) vwCl [(h0, .inr (5, [.ref q_1, .int 0, .ref q_2, .int 0, .ref q_3, .null, .null, .null, .null, .null])), (q_5, .inl (cy 0, 32, .inl (fun _ => 0)))] H := hP
  have hD : va_D A [(h0, .inr (5, [.ref q_1, .int 0, .ref q_2, .int 0, .ref q_3, .null, .null, .null, .null, .null])), (q_5, .inl (cy 0, 32, .inl (fun _ => 0)))] := hD
  refine W.widen (k := 36) (n := 1354) (Nat.le_of_ble_eq_true rfl) (Nat.le_of_ble_eq_true rfl) ?_
  refine va_putF (D := (dC, dI)) (ci := 5) (v := .ref q_5) (C := RX5) (T := TX5) (N := 10) hx hb hts (fun _ h9 => List.mem_cons_of_mem _ (List.mem_append_right _ h9)) tyX5 tyX5_ok nmX5 hown hK hP hD hS 0 rfl rfl 5 (by decide) (hts (.fieldLink RX5 30 "SeatsRound$Orders" "least" "[I") (List.mem_of_getElem? (i := 11) rfl)) (fun _ h9 => h9) rfl hin rfl (tyX5_ok 5 (by decide)) rfl rfl (Nat.le_of_ble_eq_true rfl) dX5_init_45 (fun H locs hP hD hS => ?_)
  have hP : va_P (dC, dI) vwCl [(h0, .inr (5, [.ref q_1, .int 0, .ref q_2, .int 0, .ref q_3, .ref q_5, .null, .null, .null, .null])), (q_5, .inl (cy 0, 32, .inl (fun _ => 0)))] H := hP
  have hD : va_D A [(h0, .inr (5, [.ref q_1, .int 0, .ref q_2, .int 0, .ref q_3, .ref q_5, .null, .null, .null, .null])), (q_5, .inl (cy 0, 32, .inl (fun _ => 0)))] := hD
  have hP := hP.sub (ws' := [(h0, .inr (5, [.ref q_1, .int 0, .ref q_2, .int 0, .ref q_3, .ref q_5, .null, .null, .null, .null]))]) [0] rfl
  have hD := hD.sub (ws' := [(h0, .inr (5, [.ref q_1, .int 0, .ref q_2, .int 0, .ref q_3, .ref q_5, .null, .null, .null, .null]))]) [0] (by decide) rfl
  refine lv_aload_n hx hb dX5_init_48 rfl (lv_at hl 0 rfl) ?_
  refine lv_aload_n hx hb dX5_init_49 rfl (lv_at hl 1 rfl) ?_
  change W _ _ _ _ _ _ _ _ _ _ _ _ _ _ _ (F0 m 50 ls [.ref k0, .ref h0])
  refine va_putF (D := (dC, dI)) (ci := 5) (v := .ref k0) (C := RX5) (T := TX5) (N := 10) hx hb hts (fun _ h9 => List.mem_cons_of_mem _ (List.mem_append_right _ h9)) tyX5 tyX5_ok nmX5 hown hK hP hD hS 0 rfl rfl 6 (by decide) (hts (.fieldLink RX5 33 "SeatsRound$Orders" "keepers" "LSeatsRound$Keepers;") (List.mem_of_getElem? (i := 12) rfl)) (fun _ h9 => h9) rfl hin rfl (tyX5_ok 6 (by decide)) rfl rfl (Nat.le_of_ble_eq_true rfl) dX5_init_50 (fun H locs hP hD hS => ?_)
  have hP : va_P (dC, dI) vwCl [(h0, .inr (5, [.ref q_1, .int 0, .ref q_2, .int 0, .ref q_3, .ref q_5, .ref k0, .null, .null, .null]))] H := hP
  have hD : va_D A [(h0, .inr (5, [.ref q_1, .int 0, .ref q_2, .int 0, .ref q_3, .ref q_5, .ref k0, .null, .null, .null]))] := hD
  refine lv_aload_n hx hb dX5_init_53 rfl (lv_at hl 0 rfl) ?_
  refine lv_aload_n hx hb dX5_init_54 rfl (lv_at hl 2 rfl) ?_
  refine va_putF (D := (dC, dI)) (ci := 5) (v := .ref k1) (C := RX5) (T := TX5) (N := 10) hx hb hts (fun _ h9 => List.mem_cons_of_mem _ (List.mem_append_right _ h9)) tyX5 tyX5_ok nmX5 hown hK hP hD hS 0 rfl rfl 7 (by decide) (hts (.fieldLink RX5 37 "SeatsRound$Orders" "nameList" "LSeatsRound$NameList;") (List.mem_of_getElem? (i := 13) rfl)) (fun _ h9 => h9) rfl hin rfl (tyX5_ok 7 (by decide)) rfl rfl (Nat.le_of_ble_eq_true rfl) dX5_init_55 (fun H locs hP hD hS => ?_)
  have hP : va_P (dC, dI) vwCl [(h0, .inr (5, [.ref q_1, .int 0, .ref q_2, .int 0, .ref q_3, .ref q_5, .ref k0, .ref k1, .null, .null]))] H := hP
  have hD : va_D A [(h0, .inr (5, [.ref q_1, .int 0, .ref q_2, .int 0, .ref q_3, .ref q_5, .ref k0, .ref k1, .null, .null]))] := hD
  refine lv_aload_n hx hb dX5_init_58 rfl (lv_at hl 0 rfl) ?_
  refine lv_aload_n hx hb dX5_init_59 rfl (lv_at hl 3 rfl) ?_
  refine va_putF (D := (dC, dI)) (ci := 5) (v := .ref k2) (C := RX5) (T := TX5) (N := 10) hx hb hts (fun _ h9 => List.mem_cons_of_mem _ (List.mem_append_right _ h9)) tyX5 tyX5_ok nmX5 hown hK hP hD hS 0 rfl rfl 8 (by decide) (hts (.fieldLink RX5 41 "SeatsRound$Orders" "choice" "LSeatsRound$Choice;") (List.mem_of_getElem? (i := 14) rfl)) (fun _ h9 => h9) rfl hin rfl (tyX5_ok 8 (by decide)) rfl rfl (Nat.le_of_ble_eq_true rfl) dX5_init_60 (fun H locs hP hD hS => ?_)
  have hP : va_P (dC, dI) vwCl [(h0, .inr (5, [.ref q_1, .int 0, .ref q_2, .int 0, .ref q_3, .ref q_5, .ref k0, .ref k1, .ref k2, .null]))] H := hP
  have hD : va_D A [(h0, .inr (5, [.ref q_1, .int 0, .ref q_2, .int 0, .ref q_3, .ref q_5, .ref k0, .ref k1, .ref k2, .null]))] := hD
  refine lv_aload_n hx hb dX5_init_63 rfl (lv_at hl 0 rfl) ?_
  change W _ _ _ _ _ _ _ _ _ _ _ _ _ _ _ (F0 m 64 ls [.ref h0])
  refine lv_aload hx hb dX5_init_64 (lv_at hl 4 rfl) ?_
  refine va_putF (D := (dC, dI)) (ci := 5) (v := .ref k3) (C := RX5) (T := TX5) (N := 10) hx hb hts (fun _ h9 => List.mem_cons_of_mem _ (List.mem_append_right _ h9)) tyX5 tyX5_ok nmX5 hown hK hP hD hS 0 rfl rfl 9 (by decide) (hts (.fieldLink RX5 45 "SeatsRound$Orders" "law" "LSeatsRound$Law;") (List.mem_of_getElem? (i := 15) rfl)) (fun _ h9 => h9) rfl hin rfl (tyX5_ok 9 (by decide)) rfl rfl (Nat.le_of_ble_eq_true rfl) dX5_init_66 (fun H locs hP hD hS => ?_)
  have hP : va_P (dC, dI) vwCl [(h0, .inr (5, [.ref q_1, .int 0, .ref q_2, .int 0, .ref q_3, .ref q_5, .ref k0, .ref k1, .ref k2, .ref k3]))] H := hP
  have hD : va_D A [(h0, .inr (5, [.ref q_1, .int 0, .ref q_2, .int 0, .ref q_3, .ref q_5, .ref k0, .ref k1, .ref k2, .ref k3]))] := hD
  have hP9 := hP.sub (ws' := [(h0, .inr (5, [.ref q_1, .int 0, .ref q_2, .int 0, .ref q_3, .ref q_5, .ref k0, .ref k1, .ref k2, .ref k3]))]) [0] rfl
  have hD9 := hD.sub (ws' := [(h0, .inr (5, [.ref q_1, .int 0, .ref q_2, .int 0, .ref q_3, .ref q_5, .ref k0, .ref k1, .ref k2, .ref k3]))]) [0] (by decide) rfl
  exact W.vret hx hb hr (fun t ht hW => ⟨⟨(fun k => [q_1, q_2, q_3, q_5].getD k 0), rfl, trivial, ⟨by rw [ht]; exact hP9, hD9⟩⟩, hS.F ht⟩) hS.2.2 dX5_init_69
set_option maxHeartbeats 4000000 in
set_option maxRecDepth 100000 in
theorem c_Turnings_init (l : Launch) (dC : Nat → ClassId) (dI : Nat → Nat → Nat) (cy : Nat → ClassId) (h0 : Nat) (k0 : Nat) (sz : Nat)  : Met l yX10_init wsX10_init ({ frames := 1, cells := 2, slots := 18, locals := 23 }) (va_Pc [.ref h0, .ref k0] (wPre (dC, dI) cy [(h0, .inr (10, [.null, .int 0, .int 0, .null, .null]))] sz)) (va_Qv (fun (u : Nat → Nat) => True) (fun (u : Nat → Nat) t => wAt (dC, dI) (va_A [(h0, .inr (10, [.null, .int 0, .int 0, .null, .null]))] sz) [(h0, .inr (10, [.ref (u 0), .int 0, .int (-1), .ref (u 1), .ref k0])), ((u 0), .inl (cy 0, 6, .inl (fun _ => 0)))] t) (va_A [(h0, .inr (10, [.null, .int 0, .int 0, .null, .null]))] sz)) 2 18 (va_A [(h0, .inr (10, [.null, .int 0, .int 0, .null, .null]))] sz) := by
  refine Met.ofW (cc := cX10_init) (maxL := 2) (ret := none) (by decide) rfl ?_
  intro p e s m args below meth c s₁ B hml hv
  obtain ⟨rfl, hsz, hP, hK, hD0, hN⟩ := hv
  have hx := B.exec
  have hb := B.bytes
  have hr := B.returns
  have hts := atoms_spec (ws := wsX10_init) B.pre
  have hown : s.vm.findClass RX10 = some m.cls := findClass_of_methodNamed B.named
  have hlocks := B.notSynchronized
  subst hsz
  have hin : meth.name = "<init>" := (name_of_methodNamed B.named B.method).1
  have hD := hD0.self (sz := s.heap.size)
  generalize hAe : va_A [(h0, .inr (10, [.null, .int 0, .int 0, .null, .null]))] s.heap.size = A at hD ⊢
  have hA : ∀ q : Nat, s.heap.size ≤ q → A q := fun q h => by rw [← hAe]; exact Or.inr h
  have hS : va_S A s.heap s.heap [] := va_S.rf
  have hl := lv_entry ([.ref h0, .ref k0]) (n := 2) (Nat.le_of_ble_eq_true rfl)
  rw [lg_entry_eq]
  generalize (lg_sl ([.ref h0, .ref k0]) ++ List.replicate (2 - (lg_sl ([.ref h0, .ref k0])).length) Slot.unset).toArray = ls at hl ⊢
  have hl : lv_has ls 2 [(0, .ref h0), (1, .ref k0)] := hl
  refine lv_aload_n hx hb dX10_init_0 rfl (lv_at hl 0 rfl) ?_
  refine W.objInit hx hb hown (hts (.methodLink RX10 3 objectInit) (List.mem_of_getElem? (i := 1) rfl)) (hts (.instanceMethod objectInit) (List.mem_of_getElem? (i := 2) rfl)) (hts (.code objectInit ⟨#[0xb1]⟩ 1 none) (List.mem_of_getElem? (i := 3) rfl)) rfl (hl.1.trans hml.symm) rfl dX10_init_1 (Nat.le_of_ble_eq_true rfl) (Nat.le_of_ble_eq_true rfl) ?_
  refine lv_aload_n hx hb dX10_init_4 rfl (lv_at hl 0 rfl) ?_
  change W _ _ _ _ _ _ _ _ _ _ _ _ _ _ _ (F0 m 5 ls [.ref h0])
  refine lv_bipush (v := 6) hx hb dX10_init_5 (by decide) ?_
  refine vz_newa (atype := .int) (ty := .int) (t0 := 0) (N' := 6) (a0 := (6, .inl (fun _ => 0))) hx hb (hts (.arrayClass .int) (List.mem_of_getElem? (i := 4) rfl)) rfl rfl hK hP hD hS hA (fun _ => rfl) (by decide) rfl (by decide) (Nat.le_of_ble_eq_true rfl) (Nat.le_of_ble_eq_true rfl) dX10_init_7 (fun q_1 H hP hD hS => ?_)
  have hP : va_P (dC, dI) vwCl [(h0, .inr (10, [.null, .int 0, .int 0, .null, .null])), (q_1, .inl (cy 0, 6, .inl (fun _ => 0)))] H := hP
  have hD : va_D A [(h0, .inr (10, [.null, .int 0, .int 0, .null, .null])), (q_1, .inl (cy 0, 6, .inl (fun _ => 0)))] := hD
  refine W.widen (k := 1) (n := 6) (Nat.le_of_ble_eq_true rfl) (Nat.le_of_ble_eq_true rfl) ?_
  refine va_putF (D := (dC, dI)) (ci := 10) (v := .ref q_1) (C := RX10) (T := TX10) (N := 5) hx hb hts (fun _ h9 => List.mem_cons_of_mem _ (List.mem_append_right _ h9)) tyX10 tyX10_ok nmX10 hown hK hP hD hS 0 rfl rfl 0 (by decide) (hts (.fieldLink RX10 9 "SeatsRound$Turnings" "told" "[I") (List.mem_of_getElem? (i := 5) rfl)) (fun _ h9 => h9) rfl hin rfl (tyX10_ok 0 (by decide)) rfl rfl (Nat.le_of_ble_eq_true rfl) dX10_init_9 (fun H locs hP hD hS => ?_)
  have hP : va_P (dC, dI) vwCl [(h0, .inr (10, [.ref q_1, .int 0, .int 0, .null, .null])), (q_1, .inl (cy 0, 6, .inl (fun _ => 0)))] H := hP
  have hD : va_D A [(h0, .inr (10, [.ref q_1, .int 0, .int 0, .null, .null])), (q_1, .inl (cy 0, 6, .inl (fun _ => 0)))] := hD
  refine lv_aload_n hx hb dX10_init_12 rfl (lv_at hl 0 rfl) ?_
  refine lv_iconst (v := 0) hx hb dX10_init_13 (by decide) ?_
  refine va_put (D := (dC, dI)) (ci := 10) (v := .int 0) (C := RX10) (T := TX10) (N := 5) hx hb hts (fun _ h9 => List.mem_cons_of_mem _ (List.mem_append_right _ h9)) tyX10 tyX10_ok nmX10 hown hK hP hD hS 0 rfl rfl 1 (by decide) (hts (.fieldLink RX10 15 "SeatsRound$Turnings" "count" "I") (List.mem_of_getElem? (i := 6) rfl)) (fun _ h9 => h9) rfl (tyX10_ok 1 (by decide)) rfl rfl (Nat.le_of_ble_eq_true rfl) dX10_init_14 (fun H locs hP hD hS => ?_)
  have hP : va_P (dC, dI) vwCl [(h0, .inr (10, [.ref q_1, .int 0, .int 0, .null, .null])), (q_1, .inl (cy 0, 6, .inl (fun _ => 0)))] H := hP
  have hD : va_D A [(h0, .inr (10, [.ref q_1, .int 0, .int 0, .null, .null])), (q_1, .inl (cy 0, 6, .inl (fun _ => 0)))] := hD
  refine lv_aload_n hx hb dX10_init_17 rfl (lv_at hl 0 rfl) ?_
  refine lv_iconst (v := (-1)) hx hb dX10_init_18 (by decide) ?_
  change W _ _ _ _ _ _ _ _ _ _ _ _ _ _ _ (F0 m 19 ls [.int (-1), .ref h0])
  refine va_put (D := (dC, dI)) (ci := 10) (v := .int (-1)) (C := RX10) (T := TX10) (N := 5) hx hb hts (fun _ h9 => List.mem_cons_of_mem _ (List.mem_append_right _ h9)) tyX10 tyX10_ok nmX10 hown hK hP hD hS 0 rfl rfl 2 (by decide) (hts (.fieldLink RX10 19 "SeatsRound$Turnings" "greatest" "I") (List.mem_of_getElem? (i := 7) rfl)) (fun _ h9 => h9) rfl (tyX10_ok 2 (by decide)) rfl rfl (Nat.le_of_ble_eq_true rfl) dX10_init_19 (fun H locs hP hD hS => ?_)
  have hP : va_P (dC, dI) vwCl [(h0, .inr (10, [.ref q_1, .int 0, .int (-1), .null, .null])), (q_1, .inl (cy 0, 6, .inl (fun _ => 0)))] H := hP
  have hD : va_D A [(h0, .inr (10, [.ref q_1, .int 0, .int (-1), .null, .null])), (q_1, .inl (cy 0, 6, .inl (fun _ => 0)))] := hD
  refine lv_aload_n hx hb dX10_init_22 rfl (lv_at hl 0 rfl) ?_
  refine lv_bipush (v := 12) hx hb dX10_init_23 (by decide) ?_
  refine vz_newa (atype := .int) (ty := .int) (t0 := 0) (N' := 12) (a0 := (12, .inl (fun _ => 0))) hx hb (hts (.arrayClass .int) (List.mem_of_getElem? (i := 4) rfl)) rfl rfl hK hP hD hS hA (fun _ => rfl) (by decide) rfl (by decide) (Nat.le_of_ble_eq_true rfl) (Nat.le_of_ble_eq_true rfl) dX10_init_25 (fun q_2 H hP hD hS => ?_)
  have hP : va_P (dC, dI) vwCl [(h0, .inr (10, [.ref q_1, .int 0, .int (-1), .null, .null])), (q_1, .inl (cy 0, 6, .inl (fun _ => 0))), (q_2, .inl (cy 0, 12, .inl (fun _ => 0)))] H := hP
  have hD : va_D A [(h0, .inr (10, [.ref q_1, .int 0, .int (-1), .null, .null])), (q_1, .inl (cy 0, 6, .inl (fun _ => 0))), (q_2, .inl (cy 0, 12, .inl (fun _ => 0)))] := hD
  refine W.widen (k := 2) (n := 18) (Nat.le_of_ble_eq_true rfl) (Nat.le_of_ble_eq_true rfl) ?_
  refine va_putF (D := (dC, dI)) (ci := 10) (v := .ref q_2) (C := RX10) (T := TX10) (N := 5) hx hb hts (fun _ h9 => List.mem_cons_of_mem _ (List.mem_append_right _ h9)) tyX10 tyX10_ok nmX10 hown hK hP hD hS 0 rfl rfl 3 (by decide) (hts (.fieldLink RX10 22 "SeatsRound$Turnings" "shares" "[I") (List.mem_of_getElem? (i := 8) rfl)) (fun _ h9 => h9) rfl hin rfl (tyX10_ok 3 (by decide)) rfl rfl (Nat.le_of_ble_eq_true rfl) dX10_init_27 (fun H locs hP hD hS => ?_)
  have hP : va_P (dC, dI) vwCl [(h0, .inr (10, [.ref q_1, .int 0, .int (-1), .ref q_2, .null])), (q_1, .inl (cy 0, 6, .inl (fun _ => 0))), (q_2, .inl (cy 0, 12, .inl (fun _ => 0)))] H := hP
  have hD : va_D A [(h0, .inr (10, [.ref q_1, .int 0, .int (-1), .ref q_2, .null])), (q_1, .inl (cy 0, 6, .inl (fun _ => 0))), (q_2, .inl (cy 0, 12, .inl (fun _ => 0)))] := hD
  have hP := hP.sub (ws' := [(h0, .inr (10, [.ref q_1, .int 0, .int (-1), .ref q_2, .null])), (q_1, .inl (cy 0, 6, .inl (fun _ => 0)))]) [0, 1] rfl
  have hD := hD.sub (ws' := [(h0, .inr (10, [.ref q_1, .int 0, .int (-1), .ref q_2, .null])), (q_1, .inl (cy 0, 6, .inl (fun _ => 0)))]) [0, 1] (by decide) rfl
  refine lv_aload_n hx hb dX10_init_30 rfl (lv_at hl 0 rfl) ?_
  refine lv_aload_n hx hb dX10_init_31 rfl (lv_at hl 1 rfl) ?_
  refine va_putF (D := (dC, dI)) (ci := 10) (v := .ref k0) (C := RX10) (T := TX10) (N := 5) hx hb hts (fun _ h9 => List.mem_cons_of_mem _ (List.mem_append_right _ h9)) tyX10 tyX10_ok nmX10 hown hK hP hD hS 0 rfl rfl 4 (by decide) (hts (.fieldLink RX10 25 "SeatsRound$Turnings" "nameList" "LSeatsRound$NameList;") (List.mem_of_getElem? (i := 9) rfl)) (fun _ h9 => h9) rfl hin rfl (tyX10_ok 4 (by decide)) rfl rfl (Nat.le_of_ble_eq_true rfl) dX10_init_32 (fun H locs hP hD hS => ?_)
  have hP : va_P (dC, dI) vwCl [(h0, .inr (10, [.ref q_1, .int 0, .int (-1), .ref q_2, .ref k0])), (q_1, .inl (cy 0, 6, .inl (fun _ => 0)))] H := hP
  have hD : va_D A [(h0, .inr (10, [.ref q_1, .int 0, .int (-1), .ref q_2, .ref k0])), (q_1, .inl (cy 0, 6, .inl (fun _ => 0)))] := hD
  change W _ _ _ _ _ _ _ _ _ _ _ _ _ _ _ (F0 m 35 ls [])
  have hP9 := hP.sub (ws' := [(h0, .inr (10, [.ref q_1, .int 0, .int (-1), .ref q_2, .ref k0])), (q_1, .inl (cy 0, 6, .inl (fun _ => 0)))]) [0, 1] rfl
  have hD9 := hD.sub (ws' := [(h0, .inr (10, [.ref q_1, .int 0, .int (-1), .ref q_2, .ref k0])), (q_1, .inl (cy 0, 6, .inl (fun _ => 0)))]) [0, 1] (by decide) rfl
  exact W.vret hx hb hr (fun t ht hW => ⟨⟨(fun k => [q_1, q_2].getD k 0), rfl, trivial, ⟨by rw [ht]; exact hP9, hD9⟩⟩, hS.F ht⟩) hS.2.2 dX10_init_35
set_option maxHeartbeats 4000000 in
set_option maxRecDepth 100000 in
theorem c_Acts_init (l : Launch) (dC : Nat → ClassId) (dI : Nat → Nat → Nat) (cy : Nat → ClassId) (h0 : Nat) (sz : Nat)  : Met l yX0_init wsX0_init ({ frames := 1, cells := 1, slots := 24, locals := 23 }) (va_Pc [.ref h0] (wPre (dC, dI) cy [(h0, .inr (0, [.null, .int 0, .int 0, .int 0, .int 0]))] sz)) (va_Qv (fun (u : Nat → Nat) => True) (fun (u : Nat → Nat) t => wAt (dC, dI) (va_A [(h0, .inr (0, [.null, .int 0, .int 0, .int 0, .int 0]))] sz) [(h0, .inr (0, [.ref (u 0), .int 0, .int 0, .int 0, .int 0]))] t) (va_A [(h0, .inr (0, [.null, .int 0, .int 0, .int 0, .int 0]))] sz)) 1 24 (va_A [(h0, .inr (0, [.null, .int 0, .int 0, .int 0, .int 0]))] sz) := by
  refine Met.ofW (cc := cX0_init) (maxL := 1) (ret := none) (by decide) rfl ?_
  intro p e s m args below meth c s₁ B hml hv
  obtain ⟨rfl, hsz, hP, hK, hD0, hN⟩ := hv
  have hx := B.exec
  have hb := B.bytes
  have hr := B.returns
  have hts := atoms_spec (ws := wsX0_init) B.pre
  have hown : s.vm.findClass RX0 = some m.cls := findClass_of_methodNamed B.named
  have hlocks := B.notSynchronized
  subst hsz
  have hin : meth.name = "<init>" := (name_of_methodNamed B.named B.method).1
  have hD := hD0.self (sz := s.heap.size)
  generalize hAe : va_A [(h0, .inr (0, [.null, .int 0, .int 0, .int 0, .int 0]))] s.heap.size = A at hD ⊢
  have hA : ∀ q : Nat, s.heap.size ≤ q → A q := fun q h => by rw [← hAe]; exact Or.inr h
  have hS : va_S A s.heap s.heap [] := va_S.rf
  have hl := lv_entry ([.ref h0]) (n := 1) (Nat.le_of_ble_eq_true rfl)
  rw [lg_entry_eq]
  generalize (lg_sl ([.ref h0]) ++ List.replicate (1 - (lg_sl ([.ref h0])).length) Slot.unset).toArray = ls at hl ⊢
  have hl : lv_has ls 1 [(0, .ref h0)] := hl
  refine lv_aload_n hx hb dX0_init_0 rfl (lv_at hl 0 rfl) ?_
  refine W.objInit hx hb hown (hts (.methodLink RX0 3 objectInit) (List.mem_of_getElem? (i := 1) rfl)) (hts (.instanceMethod objectInit) (List.mem_of_getElem? (i := 2) rfl)) (hts (.code objectInit ⟨#[0xb1]⟩ 1 none) (List.mem_of_getElem? (i := 3) rfl)) rfl (hl.1.trans hml.symm) rfl dX0_init_1 (Nat.le_of_ble_eq_true rfl) (Nat.le_of_ble_eq_true rfl) ?_
  refine lv_aload_n hx hb dX0_init_4 rfl (lv_at hl 0 rfl) ?_
  refine lv_bipush (v := 24) hx hb dX0_init_5 (by decide) ?_
  refine vz_newa (atype := .int) (ty := .int) (t0 := 0) (N' := 24) (a0 := (24, .inl (fun _ => 0))) hx hb (hts (.arrayClass .int) (List.mem_of_getElem? (i := 4) rfl)) rfl rfl hK hP hD hS hA (fun _ => rfl) (by decide) rfl (by decide) (Nat.le_of_ble_eq_true rfl) (Nat.le_of_ble_eq_true rfl) dX0_init_7 (fun q_1 H hP hD hS => ?_)
  have hP : va_P (dC, dI) vwCl [(h0, .inr (0, [.null, .int 0, .int 0, .int 0, .int 0])), (q_1, .inl (cy 0, 24, .inl (fun _ => 0)))] H := hP
  have hD : va_D A [(h0, .inr (0, [.null, .int 0, .int 0, .int 0, .int 0])), (q_1, .inl (cy 0, 24, .inl (fun _ => 0)))] := hD
  refine W.widen (k := 1) (n := 24) (Nat.le_of_ble_eq_true rfl) (Nat.le_of_ble_eq_true rfl) ?_
  refine va_putF (D := (dC, dI)) (ci := 0) (v := .ref q_1) (C := RX0) (T := TX0) (N := 5) hx hb hts (fun _ h9 => List.mem_cons_of_mem _ (List.mem_append_right _ h9)) tyX0 tyX0_ok nmX0 hown hK hP hD hS 0 rfl rfl 0 (by decide) (hts (.fieldLink RX0 9 "SeatsRound$Acts" "bodies" "[I") (List.mem_of_getElem? (i := 5) rfl)) (fun _ h9 => h9) rfl hin rfl (tyX0_ok 0 (by decide)) rfl rfl (Nat.le_of_ble_eq_true rfl) dX0_init_9 (fun H locs hP hD hS => ?_)
  have hP : va_P (dC, dI) vwCl [(h0, .inr (0, [.ref q_1, .int 0, .int 0, .int 0, .int 0])), (q_1, .inl (cy 0, 24, .inl (fun _ => 0)))] H := hP
  have hD : va_D A [(h0, .inr (0, [.ref q_1, .int 0, .int 0, .int 0, .int 0])), (q_1, .inl (cy 0, 24, .inl (fun _ => 0)))] := hD
  have hP := hP.sub (ws' := [(h0, .inr (0, [.ref q_1, .int 0, .int 0, .int 0, .int 0]))]) [0] rfl
  have hD := hD.sub (ws' := [(h0, .inr (0, [.ref q_1, .int 0, .int 0, .int 0, .int 0]))]) [0] (by decide) rfl
  change W _ _ _ _ _ _ _ _ _ _ _ _ _ _ _ (F0 m 12 ls [])
  refine lv_aload_n hx hb dX0_init_12 rfl (lv_at hl 0 rfl) ?_
  refine lv_iconst (v := 0) hx hb dX0_init_13 (by decide) ?_
  refine va_put (D := (dC, dI)) (ci := 0) (v := .int 0) (C := RX0) (T := TX0) (N := 5) hx hb hts (fun _ h9 => List.mem_cons_of_mem _ (List.mem_append_right _ h9)) tyX0 tyX0_ok nmX0 hown hK hP hD hS 0 rfl rfl 1 (by decide) (hts (.fieldLink RX0 15 "SeatsRound$Acts" "ran" "I") (List.mem_of_getElem? (i := 6) rfl)) (fun _ h9 => h9) rfl (tyX0_ok 1 (by decide)) rfl rfl (Nat.le_of_ble_eq_true rfl) dX0_init_14 (fun H locs hP hD hS => ?_)
  have hP : va_P (dC, dI) vwCl [(h0, .inr (0, [.ref q_1, .int 0, .int 0, .int 0, .int 0]))] H := hP
  have hD : va_D A [(h0, .inr (0, [.ref q_1, .int 0, .int 0, .int 0, .int 0]))] := hD
  refine lv_aload_n hx hb dX0_init_17 rfl (lv_at hl 0 rfl) ?_
  refine lv_iconst (v := 0) hx hb dX0_init_18 (by decide) ?_
  refine va_put (D := (dC, dI)) (ci := 0) (v := .int 0) (C := RX0) (T := TX0) (N := 5) hx hb hts (fun _ h9 => List.mem_cons_of_mem _ (List.mem_append_right _ h9)) tyX0 tyX0_ok nmX0 hown hK hP hD hS 0 rfl rfl 2 (by decide) (hts (.fieldLink RX0 19 "SeatsRound$Acts" "own" "I") (List.mem_of_getElem? (i := 7) rfl)) (fun _ h9 => h9) rfl (tyX0_ok 2 (by decide)) rfl rfl (Nat.le_of_ble_eq_true rfl) dX0_init_19 (fun H locs hP hD hS => ?_)
  have hP : va_P (dC, dI) vwCl [(h0, .inr (0, [.ref q_1, .int 0, .int 0, .int 0, .int 0]))] H := hP
  have hD : va_D A [(h0, .inr (0, [.ref q_1, .int 0, .int 0, .int 0, .int 0]))] := hD
  refine lv_aload_n hx hb dX0_init_22 rfl (lv_at hl 0 rfl) ?_
  refine lv_iconst (v := 0) hx hb dX0_init_23 (by decide) ?_
  change W _ _ _ _ _ _ _ _ _ _ _ _ _ _ _ (F0 m 24 ls [.int 0, .ref h0])
  refine va_put (D := (dC, dI)) (ci := 0) (v := .int 0) (C := RX0) (T := TX0) (N := 5) hx hb hts (fun _ h9 => List.mem_cons_of_mem _ (List.mem_append_right _ h9)) tyX0 tyX0_ok nmX0 hown hK hP hD hS 0 rfl rfl 3 (by decide) (hts (.fieldLink RX0 22 "SeatsRound$Acts" "number" "I") (List.mem_of_getElem? (i := 8) rfl)) (fun _ h9 => h9) rfl (tyX0_ok 3 (by decide)) rfl rfl (Nat.le_of_ble_eq_true rfl) dX0_init_24 (fun H locs hP hD hS => ?_)
  have hP : va_P (dC, dI) vwCl [(h0, .inr (0, [.ref q_1, .int 0, .int 0, .int 0, .int 0]))] H := hP
  have hD : va_D A [(h0, .inr (0, [.ref q_1, .int 0, .int 0, .int 0, .int 0]))] := hD
  refine lv_aload_n hx hb dX0_init_27 rfl (lv_at hl 0 rfl) ?_
  refine lv_iconst (v := 0) hx hb dX0_init_28 (by decide) ?_
  refine va_put (D := (dC, dI)) (ci := 0) (v := .int 0) (C := RX0) (T := TX0) (N := 5) hx hb hts (fun _ h9 => List.mem_cons_of_mem _ (List.mem_append_right _ h9)) tyX0 tyX0_ok nmX0 hown hK hP hD hS 0 rfl rfl 4 (by decide) (hts (.fieldLink RX0 25 "SeatsRound$Acts" "strength" "I") (List.mem_of_getElem? (i := 9) rfl)) (fun _ h9 => h9) rfl (tyX0_ok 4 (by decide)) rfl rfl (Nat.le_of_ble_eq_true rfl) dX0_init_29 (fun H locs hP hD hS => ?_)
  have hP : va_P (dC, dI) vwCl [(h0, .inr (0, [.ref q_1, .int 0, .int 0, .int 0, .int 0]))] H := hP
  have hD : va_D A [(h0, .inr (0, [.ref q_1, .int 0, .int 0, .int 0, .int 0]))] := hD
  have hP9 := hP.sub (ws' := [(h0, .inr (0, [.ref q_1, .int 0, .int 0, .int 0, .int 0]))]) [0] rfl
  have hD9 := hD.sub (ws' := [(h0, .inr (0, [.ref q_1, .int 0, .int 0, .int 0, .int 0]))]) [0] (by decide) rfl
  exact W.vret hx hb hr (fun t ht hW => ⟨⟨(fun k => [q_1].getD k 0), rfl, trivial, ⟨by rw [ht]; exact hP9, hD9⟩⟩, hS.F ht⟩) hS.2.2 dX0_init_32
