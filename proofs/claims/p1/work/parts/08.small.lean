set_option maxHeartbeats 4000000 in
set_option maxRecDepth 100000 in
theorem c_isStrength (l : Launch) (dC : Nat → ClassId) (dI : Nat → Nat → Nat) (cy : Nat → ClassId) (p0 : Int32) (sz : Nat)  : Met l yX11_isStrength wsX11_isStrength ({ frames := 1, cells := 0, slots := 0, locals := 23 }) (va_Pc [.int p0] (wPre (dC, dI) cy [] sz)) (vp_Si (fun r => ((1 : Int) ≤ p0.toInt ∧ p0.toInt ≤ 8) ∧ r = 1 ∨ ¬ ((1 : Int) ≤ p0.toInt ∧ p0.toInt ≤ 8) ∧ r = 0)) 0 0 (fun _ => False) := by
  refine Met.ofW (cc := cX11_isStrength) (maxL := 1) (ret := (some .boolean)) (by decide) rfl ?_
  intro p e s m args below meth c s₁ B hml hv
  obtain ⟨rfl, hsz, hP, hK, hD0, hN⟩ := hv
  have hx := B.exec
  have hb := B.bytes
  have hr := B.returns
  have hts := atoms_spec (ws := wsX11_isStrength) B.pre
  have hown : s.vm.findClass RX11 = some m.cls := findClass_of_methodNamed B.named
  have hlocks := B.notSynchronized
  subst hsz
  have hl := lv_entry ([.int p0]) (n := 1) (Nat.le_of_ble_eq_true rfl)
  rw [lg_entry_eq]
  generalize (lg_sl ([.int p0]) ++ List.replicate (1 - (lg_sl ([.int p0])).length) Slot.unset).toArray = ls at hl ⊢
  have hl : lv_has ls 1 [(0, .int p0)] := hl
  refine lv_iload_n hx hb dX11_isStrength_0 rfl (lv_at hl 0 rfl) ?_
  refine lv_iconst (v := 1) hx hb dX11_isStrength_1 (by decide) ?_
  change W _ _ _ _ _ _ _ _ _ _ _ _ _ _ _ (F0 m 2 ls [.int 1, .int p0])
  refine lv_icmp_lt (tgt := 15) hx hb dX11_isStrength_2 (by decide) (fun c_1 => ?_) (fun c_1 => ?_)
  · have ic_1 : p0.toInt < (1 : Int) := Int32.lt_iff_toInt_lt.mp c_1
    refine lv_iconst (v := 0) hx hb dX11_isStrength_15 (by decide) ?_
    exact W.zret (v := 0) hx hb hr rfl (fun t ht hW => ⟨0, rfl, (Or.inr ⟨by omega, rfl⟩), ht⟩) (fun q h => by cases h) dX11_isStrength_16
  · have ic_1 : ¬ p0.toInt < (1 : Int) := fun h9 => c_1 (Int32.lt_iff_toInt_lt.mpr h9)
    refine lv_iload_n hx hb dX11_isStrength_5 rfl (lv_at hl 0 rfl) ?_
    refine lv_bipush (v := 8) hx hb dX11_isStrength_6 (by decide) ?_
    refine lv_icmp_gt (tgt := 15) hx hb dX11_isStrength_8 (by decide) (fun c_2 => ?_) (fun c_2 => ?_)
    · have ic_2 : (8 : Int) < p0.toInt := Int32.lt_iff_toInt_lt.mp c_2
      refine lv_iconst (v := 0) hx hb dX11_isStrength_15 (by decide) ?_
      exact W.zret (v := 0) hx hb hr rfl (fun t ht hW => ⟨0, rfl, (Or.inr ⟨by omega, rfl⟩), ht⟩) (fun q h => by cases h) dX11_isStrength_16
    · have ic_2 : ¬ (8 : Int) < p0.toInt := fun h9 => c_2 (Int32.lt_iff_toInt_lt.mpr h9)
      refine lv_iconst (v := 1) hx hb dX11_isStrength_11 (by decide) ?_
      refine lv_goto (tgt := 16) hx hb dX11_isStrength_12 (by decide) ?_
      exact W.zret (v := 1) hx hb hr rfl (fun t ht hW => ⟨1, rfl, (Or.inl ⟨by omega, rfl⟩), ht⟩) (fun q h => by cases h) dX11_isStrength_16
set_option maxHeartbeats 4000000 in
set_option maxRecDepth 100000 in
theorem c_isKind (l : Launch) (dC : Nat → ClassId) (dI : Nat → Nat → Nat) (cy : Nat → ClassId) (p0 : Int32) (sz : Nat)  : Met l yX11_isKind wsX11_isKind ({ frames := 1, cells := 0, slots := 0, locals := 23 }) (va_Pc [.int p0] (wPre (dC, dI) cy [] sz)) (vp_Si (fun r => ((0 : Int) ≤ p0.toInt ∧ p0.toInt ≤ 6) ∧ r = 1 ∨ ¬ ((0 : Int) ≤ p0.toInt ∧ p0.toInt ≤ 6) ∧ r = 0)) 0 0 (fun _ => False) := by
  refine Met.ofW (cc := cX11_isKind) (maxL := 1) (ret := (some .boolean)) (by decide) rfl ?_
  intro p e s m args below meth c s₁ B hml hv
  obtain ⟨rfl, hsz, hP, hK, hD0, hN⟩ := hv
  have hx := B.exec
  have hb := B.bytes
  have hr := B.returns
  have hts := atoms_spec (ws := wsX11_isKind) B.pre
  have hown : s.vm.findClass RX11 = some m.cls := findClass_of_methodNamed B.named
  have hlocks := B.notSynchronized
  subst hsz
  have hl := lv_entry ([.int p0]) (n := 1) (Nat.le_of_ble_eq_true rfl)
  rw [lg_entry_eq]
  generalize (lg_sl ([.int p0]) ++ List.replicate (1 - (lg_sl ([.int p0])).length) Slot.unset).toArray = ls at hl ⊢
  have hl : lv_has ls 1 [(0, .int p0)] := hl
  refine lv_iload_n hx hb dX11_isKind_0 rfl (lv_at hl 0 rfl) ?_
  refine lv_if_lt (tgt := 14) hx hb dX11_isKind_1 (by decide) (fun c_1 => ?_) (fun c_1 => ?_)
  · have ic_1 : p0.toInt < (0 : Int) := Int32.lt_iff_toInt_lt.mp c_1
    refine lv_iconst (v := 0) hx hb dX11_isKind_14 (by decide) ?_
    exact W.zret (v := 0) hx hb hr rfl (fun t ht hW => ⟨0, rfl, (Or.inr ⟨by omega, rfl⟩), ht⟩) (fun q h => by cases h) dX11_isKind_15
  · have ic_1 : ¬ p0.toInt < (0 : Int) := fun h9 => c_1 (Int32.lt_iff_toInt_lt.mpr h9)
    refine lv_iload_n hx hb dX11_isKind_4 rfl (lv_at hl 0 rfl) ?_
    change W _ _ _ _ _ _ _ _ _ _ _ _ _ _ _ (F0 m 5 ls [.int p0])
    refine lv_bipush (v := 6) hx hb dX11_isKind_5 (by decide) ?_
    refine lv_icmp_gt (tgt := 14) hx hb dX11_isKind_7 (by decide) (fun c_2 => ?_) (fun c_2 => ?_)
    · have ic_2 : (6 : Int) < p0.toInt := Int32.lt_iff_toInt_lt.mp c_2
      refine lv_iconst (v := 0) hx hb dX11_isKind_14 (by decide) ?_
      exact W.zret (v := 0) hx hb hr rfl (fun t ht hW => ⟨0, rfl, (Or.inr ⟨by omega, rfl⟩), ht⟩) (fun q h => by cases h) dX11_isKind_15
    · have ic_2 : ¬ (6 : Int) < p0.toInt := fun h9 => c_2 (Int32.lt_iff_toInt_lt.mpr h9)
      refine lv_iconst (v := 1) hx hb dX11_isKind_10 (by decide) ?_
      refine lv_goto (tgt := 15) hx hb dX11_isKind_11 (by decide) ?_
      exact W.zret (v := 1) hx hb hr rfl (fun t ht hW => ⟨1, rfl, (Or.inl ⟨by omega, rfl⟩), ht⟩) (fun q h => by cases h) dX11_isKind_15
set_option maxHeartbeats 4000000 in
set_option maxRecDepth 100000 in
theorem c_isShelf (l : Launch) (dC : Nat → ClassId) (dI : Nat → Nat → Nat) (cy : Nat → ClassId) (p0 : Int32) (sz : Nat)  : Met l yX11_isShelf wsX11_isShelf ({ frames := 1, cells := 0, slots := 0, locals := 23 }) (va_Pc [.int p0] (wPre (dC, dI) cy [] sz)) (vp_Si (fun r => ((0 : Int) ≤ p0.toInt ∧ p0.toInt ≤ 5) ∧ r = 1 ∨ ¬ ((0 : Int) ≤ p0.toInt ∧ p0.toInt ≤ 5) ∧ r = 0)) 0 0 (fun _ => False) := by
  refine Met.ofW (cc := cX11_isShelf) (maxL := 1) (ret := (some .boolean)) (by decide) rfl ?_
  intro p e s m args below meth c s₁ B hml hv
  obtain ⟨rfl, hsz, hP, hK, hD0, hN⟩ := hv
  have hx := B.exec
  have hb := B.bytes
  have hr := B.returns
  have hts := atoms_spec (ws := wsX11_isShelf) B.pre
  have hown : s.vm.findClass RX11 = some m.cls := findClass_of_methodNamed B.named
  have hlocks := B.notSynchronized
  subst hsz
  have hl := lv_entry ([.int p0]) (n := 1) (Nat.le_of_ble_eq_true rfl)
  rw [lg_entry_eq]
  generalize (lg_sl ([.int p0]) ++ List.replicate (1 - (lg_sl ([.int p0])).length) Slot.unset).toArray = ls at hl ⊢
  have hl : lv_has ls 1 [(0, .int p0)] := hl
  refine lv_iload_n hx hb dX11_isShelf_0 rfl (lv_at hl 0 rfl) ?_
  refine lv_if_lt (tgt := 14) hx hb dX11_isShelf_1 (by decide) (fun c_1 => ?_) (fun c_1 => ?_)
  · have ic_1 : p0.toInt < (0 : Int) := Int32.lt_iff_toInt_lt.mp c_1
    refine lv_iconst (v := 0) hx hb dX11_isShelf_14 (by decide) ?_
    exact W.zret (v := 0) hx hb hr rfl (fun t ht hW => ⟨0, rfl, (Or.inr ⟨by omega, rfl⟩), ht⟩) (fun q h => by cases h) dX11_isShelf_15
  · have ic_1 : ¬ p0.toInt < (0 : Int) := fun h9 => c_1 (Int32.lt_iff_toInt_lt.mpr h9)
    refine lv_iload_n hx hb dX11_isShelf_4 rfl (lv_at hl 0 rfl) ?_
    refine lv_bipush (v := 6) hx hb dX11_isShelf_5 (by decide) ?_
    refine lv_icmp_ge (tgt := 14) hx hb dX11_isShelf_7 (by decide) (fun c_2 => ?_) (fun c_2 => ?_)
    · have ic_2 : (6 : Int) ≤ p0.toInt := Int32.le_iff_toInt_le.mp c_2
      refine lv_iconst (v := 0) hx hb dX11_isShelf_14 (by decide) ?_
      change W _ _ _ _ _ _ _ _ _ _ _ _ _ _ _ (F0 m 15 ls [.int 0])
      exact W.zret (v := 0) hx hb hr rfl (fun t ht hW => ⟨0, rfl, (Or.inr ⟨by omega, rfl⟩), ht⟩) (fun q h => by cases h) dX11_isShelf_15
    · have ic_2 : ¬ (6 : Int) ≤ p0.toInt := fun h9 => c_2 (Int32.le_iff_toInt_le.mpr h9)
      refine lv_iconst (v := 1) hx hb dX11_isShelf_10 (by decide) ?_
      refine lv_goto (tgt := 15) hx hb dX11_isShelf_11 (by decide) ?_
      exact W.zret (v := 1) hx hb hr rfl (fun t ht hW => ⟨1, rfl, (Or.inl ⟨by omega, rfl⟩), ht⟩) (fun q h => by cases h) dX11_isShelf_15
set_option maxHeartbeats 4000000 in
set_option maxRecDepth 100000 in
theorem c_isPlace (l : Launch) (dC : Nat → ClassId) (dI : Nat → Nat → Nat) (cy : Nat → ClassId) (p0 : Int32) (sz : Nat)  : Met l yX11_isPlace wsX11_isPlace ({ frames := 1, cells := 0, slots := 0, locals := 23 }) (va_Pc [.int p0] (wPre (dC, dI) cy [] sz)) (vp_Si (fun r => ((0 : Int) ≤ p0.toInt ∧ p0.toInt ≤ 999) ∧ r = 1 ∨ ¬ ((0 : Int) ≤ p0.toInt ∧ p0.toInt ≤ 999) ∧ r = 0)) 0 0 (fun _ => False) := by
  refine Met.ofW (cc := cX11_isPlace) (maxL := 1) (ret := (some .boolean)) (by decide) rfl ?_
  intro p e s m args below meth c s₁ B hml hv
  obtain ⟨rfl, hsz, hP, hK, hD0, hN⟩ := hv
  have hx := B.exec
  have hb := B.bytes
  have hr := B.returns
  have hts := atoms_spec (ws := wsX11_isPlace) B.pre
  have hown : s.vm.findClass RX11 = some m.cls := findClass_of_methodNamed B.named
  have hlocks := B.notSynchronized
  subst hsz
  have hl := lv_entry ([.int p0]) (n := 1) (Nat.le_of_ble_eq_true rfl)
  rw [lg_entry_eq]
  generalize (lg_sl ([.int p0]) ++ List.replicate (1 - (lg_sl ([.int p0])).length) Slot.unset).toArray = ls at hl ⊢
  have hl : lv_has ls 1 [(0, .int p0)] := hl
  refine lv_iload_n hx hb dX11_isPlace_0 rfl (lv_at hl 0 rfl) ?_
  refine lv_if_lt (tgt := 15) hx hb dX11_isPlace_1 (by decide) (fun c_1 => ?_) (fun c_1 => ?_)
  · have ic_1 : p0.toInt < (0 : Int) := Int32.lt_iff_toInt_lt.mp c_1
    refine lv_iconst (v := 0) hx hb dX11_isPlace_15 (by decide) ?_
    exact W.zret (v := 0) hx hb hr rfl (fun t ht hW => ⟨0, rfl, (Or.inr ⟨by omega, rfl⟩), ht⟩) (fun q h => by cases h) dX11_isPlace_16
  · have ic_1 : ¬ p0.toInt < (0 : Int) := fun h9 => c_1 (Int32.lt_iff_toInt_lt.mpr h9)
    refine lv_iload_n hx hb dX11_isPlace_4 rfl (lv_at hl 0 rfl) ?_
    refine lv_sipush (v := 1000) hx hb dX11_isPlace_5 (by decide) ?_
    refine lv_icmp_ge (tgt := 15) hx hb dX11_isPlace_8 (by decide) (fun c_2 => ?_) (fun c_2 => ?_)
    · have ic_2 : (1000 : Int) ≤ p0.toInt := Int32.le_iff_toInt_le.mp c_2
      refine lv_iconst (v := 0) hx hb dX11_isPlace_15 (by decide) ?_
      exact W.zret (v := 0) hx hb hr rfl (fun t ht hW => ⟨0, rfl, (Or.inr ⟨by omega, rfl⟩), ht⟩) (fun q h => by cases h) dX11_isPlace_16
    · have ic_2 : ¬ (1000 : Int) ≤ p0.toInt := fun h9 => c_2 (Int32.le_iff_toInt_le.mpr h9)
      refine lv_iconst (v := 1) hx hb dX11_isPlace_11 (by decide) ?_
      refine lv_goto (tgt := 16) hx hb dX11_isPlace_12 (by decide) ?_
      exact W.zret (v := 1) hx hb hr rfl (fun t ht hW => ⟨1, rfl, (Or.inl ⟨by omega, rfl⟩), ht⟩) (fun q h => by cases h) dX11_isPlace_16
set_option maxHeartbeats 4000000 in
set_option maxRecDepth 100000 in
theorem c_NL_has (l : Launch) (dC : Nat → ClassId) (dI : Nat → Nat → Nat) (cy : Nat → ClassId) (h0 : Nat) (c0 : Nat) (c1 : Nat) (c2 : Nat) (p0 : Int32) (sz : Nat)  : Met l yX4_has wsX4_has ({ frames := 1, cells := 0, slots := 0, locals := 23 }) (va_Pc [.ref h0, .int p0] (wPre (dC, dI) cy [(h0, .inr (4, [.ref c0, .ref c1, .ref c2, .int 0]))] sz)) (vp_Si (fun r => r = 0)) 0 0 (fun _ => False) := by
  refine Met.ofW (cc := cX4_has) (maxL := 2) (ret := (some .boolean)) (by decide) rfl ?_
  intro p e s m args below meth c s₁ B hml hv
  obtain ⟨rfl, hsz, hP, hK, hD0, hN⟩ := hv
  have hx := B.exec
  have hb := B.bytes
  have hr := B.returns
  have hts := atoms_spec (ws := wsX4_has) B.pre
  have hown : s.vm.findClass RX4 = some m.cls := findClass_of_methodNamed B.named
  have hlocks := B.notSynchronized
  subst hsz
  have hl := lv_entry ([.ref h0, .int p0]) (n := 2) (Nat.le_of_ble_eq_true rfl)
  rw [lg_entry_eq]
  generalize (lg_sl ([.ref h0, .int p0]) ++ List.replicate (2 - (lg_sl ([.ref h0, .int p0])).length) Slot.unset).toArray = ls at hl ⊢
  have hl : lv_has ls 2 [(0, .ref h0), (1, .int p0)] := hl
  refine lv_iload_n hx hb dX4_has_0 rfl (lv_at hl 1 rfl) ?_
  refine lv_if_lt (tgt := 16) hx hb dX4_has_1 (by decide) (fun c_1 => ?_) (fun c_1 => ?_)
  · have ic_1 : p0.toInt < (0 : Int) := Int32.lt_iff_toInt_lt.mp c_1
    refine lv_iconst (v := 0) hx hb dX4_has_16 (by decide) ?_
    change W _ _ _ _ _ _ _ _ _ _ _ _ _ _ _ (F0 m 17 ls [.int 0])
    exact W.zret (v := 0) hx hb hr rfl (fun t ht hW => ⟨0, rfl, (by first | rfl | (exfalso; omega)), ht⟩) (fun q h => by cases h) dX4_has_17
  · have ic_1 : ¬ p0.toInt < (0 : Int) := fun h9 => c_1 (Int32.lt_iff_toInt_lt.mpr h9)
    refine lv_iload_n hx hb dX4_has_4 rfl (lv_at hl 1 rfl) ?_
    refine lv_aload_n hx hb dX4_has_5 rfl (lv_at hl 0 rfl) ?_
    refine va_get (D := (dC, dI)) (ci := 4) (v := .int 0) (C := RX4) (T := TX4) (N := 4) hx hb hts (fun _ h9 => List.mem_cons_of_mem _ (List.mem_append_right _ h9)) hown hK hP 0 rfl rfl 3 (by decide) (hts (.fieldLink RX4 24 "SeatsRound$NameList" "count" "I") (List.mem_of_getElem? (i := 1) rfl)) (fun _ h9 => h9) rfl dX4_has_6 ?_
    refine lv_icmp_ge (tgt := 16) hx hb dX4_has_9 (by decide) (fun c_2 => ?_) (fun c_2 => ?_)
    · have ic_2 : (0 : Int) ≤ p0.toInt := Int32.le_iff_toInt_le.mp c_2
      refine lv_iconst (v := 0) hx hb dX4_has_16 (by decide) ?_
      exact W.zret (v := 0) hx hb hr rfl (fun t ht hW => ⟨0, rfl, (by first | rfl | (exfalso; omega)), ht⟩) (fun q h => by cases h) dX4_has_17
    · have ic_2 : ¬ (0 : Int) ≤ p0.toInt := fun h9 => c_2 (Int32.le_iff_toInt_le.mpr h9)
      exact absurd True.intro (by omega)
set_option maxHeartbeats 4000000 in
set_option maxRecDepth 100000 in
theorem c_KP_has (l : Launch) (dC : Nat → ClassId) (dI : Nat → Nat → Nat) (cy : Nat → ClassId) (h0 : Nat) (k0 : Nat) (k1 : Nat) (k2 : Nat) (k3 : Nat) (k4 : Nat) (p0 : Int32) (sz : Nat)  : Met l yX2_has wsX2_has ({ frames := 1, cells := 0, slots := 0, locals := 23 }) (va_Pc [.ref h0, .int p0] (wPre (dC, dI) cy [(h0, .inr (2, [.ref k0, .ref k1, .ref k2, .ref k3, .ref k4, .int 0]))] sz)) (vp_Si (fun r => r = 0)) 0 0 (fun _ => False) := by
  refine Met.ofW (cc := cX2_has) (maxL := 2) (ret := (some .boolean)) (by decide) rfl ?_
  intro p e s m args below meth c s₁ B hml hv
  obtain ⟨rfl, hsz, hP, hK, hD0, hN⟩ := hv
  have hx := B.exec
  have hb := B.bytes
  have hr := B.returns
  have hts := atoms_spec (ws := wsX2_has) B.pre
  have hown : s.vm.findClass RX2 = some m.cls := findClass_of_methodNamed B.named
  have hlocks := B.notSynchronized
  subst hsz
  have hl := lv_entry ([.ref h0, .int p0]) (n := 2) (Nat.le_of_ble_eq_true rfl)
  rw [lg_entry_eq]
  generalize (lg_sl ([.ref h0, .int p0]) ++ List.replicate (2 - (lg_sl ([.ref h0, .int p0])).length) Slot.unset).toArray = ls at hl ⊢
  have hl : lv_has ls 2 [(0, .ref h0), (1, .int p0)] := hl
  refine lv_iload_n hx hb dX2_has_0 rfl (lv_at hl 1 rfl) ?_
  refine lv_if_lt (tgt := 16) hx hb dX2_has_1 (by decide) (fun c_1 => ?_) (fun c_1 => ?_)
  · have ic_1 : p0.toInt < (0 : Int) := Int32.lt_iff_toInt_lt.mp c_1
    refine lv_iconst (v := 0) hx hb dX2_has_16 (by decide) ?_
    exact W.zret (v := 0) hx hb hr rfl (fun t ht hW => ⟨0, rfl, (by first | rfl | (exfalso; omega)), ht⟩) (fun q h => by cases h) dX2_has_17
  · have ic_1 : ¬ p0.toInt < (0 : Int) := fun h9 => c_1 (Int32.lt_iff_toInt_lt.mpr h9)
    refine lv_iload_n hx hb dX2_has_4 rfl (lv_at hl 1 rfl) ?_
    refine lv_aload_n hx hb dX2_has_5 rfl (lv_at hl 0 rfl) ?_
    refine va_get (D := (dC, dI)) (ci := 2) (v := .int 0) (C := RX2) (T := TX2) (N := 6) hx hb hts (fun _ h9 => List.mem_cons_of_mem _ (List.mem_append_right _ h9)) hown hK hP 0 rfl rfl 5 (by decide) (hts (.fieldLink RX2 28 "SeatsRound$Keepers" "count" "I") (List.mem_of_getElem? (i := 1) rfl)) (fun _ h9 => h9) rfl dX2_has_6 ?_
    refine lv_icmp_ge (tgt := 16) hx hb dX2_has_9 (by decide) (fun c_2 => ?_) (fun c_2 => ?_)
    · have ic_2 : (0 : Int) ≤ p0.toInt := Int32.le_iff_toInt_le.mp c_2
      refine lv_iconst (v := 0) hx hb dX2_has_16 (by decide) ?_
      change W _ _ _ _ _ _ _ _ _ _ _ _ _ _ _ (F0 m 17 ls [.int 0])
      exact W.zret (v := 0) hx hb hr rfl (fun t ht hW => ⟨0, rfl, (by first | rfl | (exfalso; omega)), ht⟩) (fun q h => by cases h) dX2_has_17
    · have ic_2 : ¬ (0 : Int) ≤ p0.toInt := fun h9 => c_2 (Int32.le_iff_toInt_le.mpr h9)
      exact absurd True.intro (by omega)
set_option maxHeartbeats 4000000 in
set_option maxRecDepth 100000 in
theorem c_tableAt (l : Launch) (dC : Nat → ClassId) (dI : Nat → Nat → Nat) (cy : Nat → ClassId) (h0 : Nat) (a0 : Nat) (a1 : Nat) (a2 : Nat) (a3 : Nat) (a4 : Nat) (a5 : Nat) (a7 : Nat) (a8 : Nat) (a9 : Nat) (a10 : Nat) (a11 : Nat) (a12 : Nat) (p0 : Int32) (sz : Nat)  : Met l yX11_tableAt wsX11_tableAt ({ frames := 1, cells := 0, slots := 0, locals := 23 }) (va_Pc [.ref h0, .int p0] (wPre (dC, dI) cy [(h0, .inr (11, [.ref a0, .ref a1, .ref a2, .ref a3, .ref a4, .ref a5, .int 0, .ref a7, .ref a8, .ref a9, .ref a10, .ref a11, .ref a12]))] sz)) (va_Sq (fun r => r = none)) 0 0 (fun _ => False) := by
  refine Met.ofW (cc := cX11_tableAt) (maxL := 2) (ret := (some (.object "SeatsRound$Table"))) (by decide) rfl ?_
  intro p e s m args below meth c s₁ B hml hv
  obtain ⟨rfl, hsz, hP, hK, hD0, hN⟩ := hv
  have hx := B.exec
  have hb := B.bytes
  have hr := B.returns
  have hts := atoms_spec (ws := wsX11_tableAt) B.pre
  have hown : s.vm.findClass RX11 = some m.cls := findClass_of_methodNamed B.named
  have hlocks := B.notSynchronized
  subst hsz
  have hl := lv_entry ([.ref h0, .int p0]) (n := 2) (Nat.le_of_ble_eq_true rfl)
  rw [lg_entry_eq]
  generalize (lg_sl ([.ref h0, .int p0]) ++ List.replicate (2 - (lg_sl ([.ref h0, .int p0])).length) Slot.unset).toArray = ls at hl ⊢
  have hl : lv_has ls 2 [(0, .ref h0), (1, .int p0)] := hl
  refine lv_iload_n hx hb dX11_tableAt_0 rfl (lv_at hl 1 rfl) ?_
  refine lv_if_lt (tgt := 21) hx hb dX11_tableAt_1 (by decide) (fun c_1 => ?_) (fun c_1 => ?_)
  · have ic_1 : p0.toInt < (0 : Int) := Int32.lt_iff_toInt_lt.mp c_1
    refine lv_null hx hb dX11_tableAt_21 ?_
    change W _ _ _ _ _ _ _ _ _ _ _ _ _ _ _ (F0 m 22 ls [.null])
    exact W.aret (v := .null) hx hb hr (Or.inl ⟨_, rfl⟩) (Or.inl rfl) (fun t ht hW => ⟨none, rfl, rfl, ht⟩) (fun q h => by cases h) dX11_tableAt_22
  · have ic_1 : ¬ p0.toInt < (0 : Int) := fun h9 => c_1 (Int32.lt_iff_toInt_lt.mpr h9)
    refine lv_iload_n hx hb dX11_tableAt_4 rfl (lv_at hl 1 rfl) ?_
    refine lv_aload_n hx hb dX11_tableAt_5 rfl (lv_at hl 0 rfl) ?_
    refine va_get (D := (dC, dI)) (ci := 11) (v := .int 0) (C := RX11) (T := TX11) (N := 13) hx hb hts (fun _ h9 => List.mem_cons_of_mem _ (List.mem_append_right _ h9)) hown hK hP 0 rfl rfl 6 (by decide) (hts (.fieldLink RX11 52 "SeatsRound" "tableCount" "I") (List.mem_of_getElem? (i := 1) rfl)) (fun _ h9 => h9) rfl dX11_tableAt_6 ?_
    refine lv_icmp_ge (tgt := 21) hx hb dX11_tableAt_9 (by decide) (fun c_2 => ?_) (fun c_2 => ?_)
    · have ic_2 : (0 : Int) ≤ p0.toInt := Int32.le_iff_toInt_le.mp c_2
      refine lv_null hx hb dX11_tableAt_21 ?_
      exact W.aret (v := .null) hx hb hr (Or.inl ⟨_, rfl⟩) (Or.inl rfl) (fun t ht hW => ⟨none, rfl, rfl, ht⟩) (fun q h => by cases h) dX11_tableAt_22
    · have ic_2 : ¬ (0 : Int) ≤ p0.toInt := fun h9 => c_2 (Int32.le_iff_toInt_le.mpr h9)
      exact absurd True.intro (by omega)
set_option maxHeartbeats 4000000 in
set_option maxRecDepth 100000 in
theorem c_append_1 (l : Launch) (dC : Nat → ClassId) (dI : Nat → Nat → Nat) (cy : Nat → ClassId) (h0 : Nat) (b0 : Nat) (p0 : Int32) (sz : Nat)  : Met l yX9_append wsX9_append ({ frames := 1, cells := 0, slots := 0, locals := 23 }) (va_Pc [.ref h0, .int 1, .int p0] (wPre (dC, dI) cy [(h0, .inr (9, [.ref b0, .int 0])), (b0, .inl (cy 1, 80, .inl (fun _ => 0)))] sz)) (va_Qv (fun (u : Nat → Int32) => True) (fun (u : Nat → Int32) t => wAt (dC, dI) (va_A [(h0, .inr (9, [.ref b0, .int 0])), (b0, .inl (cy 1, 80, .inl (fun _ => 0)))] sz) [(h0, .inr (9, [.ref b0, .int 1])), (b0, .inl (cy 1, 80, .inl u))] t) (va_A [(h0, .inr (9, [.ref b0, .int 0])), (b0, .inl (cy 1, 80, .inl (fun _ => 0)))] sz)) 0 0 (va_A [(h0, .inr (9, [.ref b0, .int 0])), (b0, .inl (cy 1, 80, .inl (fun _ => 0)))] sz) := by
  refine Met.ofW (cc := cX9_append) (maxL := 4) (ret := none) (by decide) rfl ?_
  intro p e s m args below meth c s₁ B hml hv
  obtain ⟨rfl, hsz, hP, hK, hD0, hN⟩ := hv
  have hx := B.exec
  have hb := B.bytes
  have hr := B.returns
  have hts := atoms_spec (ws := wsX9_append) B.pre
  have hown : s.vm.findClass RX9 = some m.cls := findClass_of_methodNamed B.named
  have hlocks := B.notSynchronized
  subst hsz
  have hD := hD0.self (sz := s.heap.size)
  generalize hAe : va_A [(h0, .inr (9, [.ref b0, .int 0])), (b0, .inl (cy 1, 80, .inl (fun _ => 0)))] s.heap.size = A at hD ⊢
  have hA : ∀ q : Nat, s.heap.size ≤ q → A q := fun q h => by rw [← hAe]; exact Or.inr h
  have hS : va_S A s.heap s.heap [] := va_S.rf
  have hl := lv_entry ([.ref h0, .int 1, .int p0]) (n := 4) (Nat.le_of_ble_eq_true rfl)
  rw [lg_entry_eq]
  generalize (lg_sl ([.ref h0, .int 1, .int p0]) ++ List.replicate (4 - (lg_sl ([.ref h0, .int 1, .int p0])).length) Slot.unset).toArray = ls at hl ⊢
  have hl : lv_has ls 4 [(0, .ref h0), (1, .int 1), (2, .int p0)] := hl
  refine lv_iconst (v := 0) hx hb dX9_append_0 (by decide) ?_
  refine lv_istore_n (lv' := [(3, .int 0), (0, .ref h0), (1, .int 1), (2, .int p0)]) hx hb dX9_append_1 rfl hl (by decide) rfl (fun ls hl => ?_)
  refine lv_iload_n hx hb dX9_append_2 rfl (lv_at hl 0 rfl) ?_
  refine lv_iload_n hx hb dX9_append_3 rfl (lv_at hl 2 rfl) ?_
  refine lv_icmp_ge (tgt := 48) hx hb dX9_append_4 (by decide) (fun c_1 => absurd c_1 (by decide)) (fun _ => ?_)
  change W _ _ _ _ _ _ _ _ _ _ _ _ _ _ _ (F0 m 7 ls [])
  refine lv_aload_n hx hb dX9_append_7 rfl (lv_at hl 1 rfl) ?_
  refine va_get (D := (dC, dI)) (ci := 9) (v := .int 0) (C := RX9) (T := TX9) (N := 2) hx hb hts (fun _ h9 => List.mem_cons_of_mem _ (List.mem_append_right _ h9)) hown hK hP 0 rfl rfl 1 (by decide) (hts (.fieldLink RX9 15 "SeatsRound$Tape" "length" "I") (List.mem_of_getElem? (i := 1) rfl)) (fun _ h9 => h9) rfl dX9_append_8 ?_
  refine lv_bipush (v := 80) hx hb dX9_append_11 (by decide) ?_
  refine lv_icmp_ge (tgt := 48) hx hb dX9_append_13 (by decide) (fun c_2 => absurd c_2 (by decide)) (fun _ => ?_)
  refine lv_aload_n hx hb dX9_append_16 rfl (lv_at hl 1 rfl) ?_
  refine va_get (D := (dC, dI)) (ci := 9) (v := .ref b0) (C := RX9) (T := TX9) (N := 2) hx hb hts (fun _ h9 => List.mem_cons_of_mem _ (List.mem_append_right _ h9)) hown hK hP 0 rfl rfl 0 (by decide) (hts (.fieldLink RX9 9 "SeatsRound$Tape" "bytes" "[B") (List.mem_of_getElem? (i := 2) rfl)) (fun _ h9 => h9) rfl dX9_append_17 ?_
  refine lv_aload_n hx hb dX9_append_20 rfl (lv_at hl 1 rfl) ?_
  refine va_get (D := (dC, dI)) (ci := 9) (v := .int 0) (C := RX9) (T := TX9) (N := 2) hx hb hts (fun _ h9 => List.mem_cons_of_mem _ (List.mem_append_right _ h9)) hown hK hP 0 rfl rfl 1 (by decide) (hts (.fieldLink RX9 15 "SeatsRound$Tape" "length" "I") (List.mem_of_getElem? (i := 1) rfl)) (fun _ h9 => h9) rfl dX9_append_21 ?_
  change W _ _ _ _ _ _ _ _ _ _ _ _ _ _ _ (F0 m 24 ls [.int 0, .ref b0])
  refine lv_iload_n hx hb dX9_append_24 rfl (lv_at hl 3 rfl) ?_
  refine lv_bipush (v := 8) hx hb dX9_append_25 (by decide) ?_
  refine lv_iload_n hx hb dX9_append_27 rfl (lv_at hl 0 rfl) ?_
  refine lv_imul hx hb dX9_append_28 ?_
  refine lv_topi (fun f_3 ef_3 => ?_)
  obtain rfl : f_3 = 0 := ef_3.trans (by decide)
  refine lv_iushr hx hb dX9_append_29 rfl ?_
  refine lv_topi (fun f_4 ef_4 => ?_)
  refine lv_i2b hx hb dX9_append_30 rfl ?_
  refine lv_topi (fun f_5 ef_5 => ?_)
  refine va_bast hx hb hK hP hD hS 1 1 rfl rfl (vp_in_nI (n := 0) (N := 80) (by decide) (by decide)) dX9_append_31 (fun H locs hP hD hS => ?_)
  generalize upd (fun _ => 0) (Int32.toNatClampNeg 0) (vp_nar .byte f_5) = g_6 at hP hD
  have hP : va_P (dC, dI) vwCl [(h0, .inr (9, [.ref b0, .int 0])), (b0, .inl (cy 1, 80, .inl g_6))] H := hP
  have hD : va_D A [(h0, .inr (9, [.ref b0, .int 0])), (b0, .inl (cy 1, 80, .inl g_6))] := hD
  refine lv_aload_n hx hb dX9_append_32 rfl (lv_at hl 1 rfl) ?_
  change W _ _ _ _ _ _ _ _ _ _ _ _ _ _ _ (F0 m 33 ls [.ref h0])
  refine lv_dup hx hb dX9_append_33 rfl ?_
  refine va_get (D := (dC, dI)) (ci := 9) (v := .int 0) (C := RX9) (T := TX9) (N := 2) hx hb hts (fun _ h9 => List.mem_cons_of_mem _ (List.mem_append_right _ h9)) hown hK hP 0 rfl rfl 1 (by decide) (hts (.fieldLink RX9 15 "SeatsRound$Tape" "length" "I") (List.mem_of_getElem? (i := 1) rfl)) (fun _ h9 => h9) rfl dX9_append_34 ?_
  refine lv_iconst (v := 1) hx hb dX9_append_37 (by decide) ?_
  refine lv_iadd hx hb dX9_append_38 ?_
  refine lv_topi (fun f_7 ef_7 => ?_)
  obtain rfl : f_7 = 1 := ef_7.trans (by decide)
  refine va_put (D := (dC, dI)) (ci := 9) (v := .int 1) (C := RX9) (T := TX9) (N := 2) hx hb hts (fun _ h9 => List.mem_cons_of_mem _ (List.mem_append_right _ h9)) tyX9 tyX9_ok nmX9 hown hK hP hD hS 0 rfl rfl 1 (by decide) (hts (.fieldLink RX9 15 "SeatsRound$Tape" "length" "I") (List.mem_of_getElem? (i := 1) rfl)) (fun _ h9 => h9) rfl (tyX9_ok 1 (by decide)) rfl rfl (Nat.le_of_ble_eq_true rfl) dX9_append_39 (fun H locs hP hD hS => ?_)
  have hP : va_P (dC, dI) vwCl [(h0, .inr (9, [.ref b0, .int 1])), (b0, .inl (cy 1, 80, .inl g_6))] H := hP
  have hD : va_D A [(h0, .inr (9, [.ref b0, .int 1])), (b0, .inl (cy 1, 80, .inl g_6))] := hD
  refine lv_iinc (v := 1) (lv' := [(3, .int 1), (0, .ref h0), (1, .int 1), (2, .int p0)]) hx hb dX9_append_42 hl (k := 0) rfl (by decide) (by decide) rfl (fun ls hl => ?_)
  refine lv_goto (tgt := 2) hx hb dX9_append_45 (by decide) ?_
  refine lv_iload_n hx hb dX9_append_2 rfl (lv_at hl 0 rfl) ?_
  change W _ _ _ _ _ _ _ _ _ _ _ _ _ _ _ (F0 m 3 ls [.int 1])
  refine lv_iload_n hx hb dX9_append_3 rfl (lv_at hl 2 rfl) ?_
  refine lv_icmp_ge (tgt := 48) hx hb dX9_append_4 (by decide) (fun _ => ?_) (fun c_8 => absurd c_8 (by decide))
  have hP9 := hP.sub (ws' := [(h0, .inr (9, [.ref b0, .int 1])), (b0, .inl (cy 1, 80, .inl g_6))]) [0, 1] rfl
  have hD9 := hD.sub (ws' := [(h0, .inr (9, [.ref b0, .int 1])), (b0, .inl (cy 1, 80, .inl g_6))]) [0, 1] (by decide) rfl
  exact W.vret hx hb hr (fun t ht hW => ⟨⟨g_6, rfl, trivial, ⟨by rw [ht]; exact hP9, hD9⟩⟩, hS.F ht⟩) hS.2.2 dX9_append_48
set_option maxHeartbeats 4000000 in
set_option maxRecDepth 100000 in
theorem c_append_2 (l : Launch) (dC : Nat → ClassId) (dI : Nat → Nat → Nat) (cy : Nat → ClassId) (h0 : Nat) (b0 : Nat) (p0 : Int32) (sz : Nat)  : Met l yX9_append wsX9_append ({ frames := 1, cells := 0, slots := 0, locals := 23 }) (va_Pc [.ref h0, .int 2, .int p0] (wPre (dC, dI) cy [(h0, .inr (9, [.ref b0, .int 0])), (b0, .inl (cy 1, 80, .inl (fun _ => 0)))] sz)) (va_Qv (fun (u : Nat → Int32) => True) (fun (u : Nat → Int32) t => wAt (dC, dI) (va_A [(h0, .inr (9, [.ref b0, .int 0])), (b0, .inl (cy 1, 80, .inl (fun _ => 0)))] sz) [(h0, .inr (9, [.ref b0, .int 2])), (b0, .inl (cy 1, 80, .inl u))] t) (va_A [(h0, .inr (9, [.ref b0, .int 0])), (b0, .inl (cy 1, 80, .inl (fun _ => 0)))] sz)) 0 0 (va_A [(h0, .inr (9, [.ref b0, .int 0])), (b0, .inl (cy 1, 80, .inl (fun _ => 0)))] sz) := by
  refine Met.ofW (cc := cX9_append) (maxL := 4) (ret := none) (by decide) rfl ?_
  intro p e s m args below meth c s₁ B hml hv
  obtain ⟨rfl, hsz, hP, hK, hD0, hN⟩ := hv
  have hx := B.exec
  have hb := B.bytes
  have hr := B.returns
  have hts := atoms_spec (ws := wsX9_append) B.pre
  have hown : s.vm.findClass RX9 = some m.cls := findClass_of_methodNamed B.named
  have hlocks := B.notSynchronized
  subst hsz
  have hD := hD0.self (sz := s.heap.size)
  generalize hAe : va_A [(h0, .inr (9, [.ref b0, .int 0])), (b0, .inl (cy 1, 80, .inl (fun _ => 0)))] s.heap.size = A at hD ⊢
  have hA : ∀ q : Nat, s.heap.size ≤ q → A q := fun q h => by rw [← hAe]; exact Or.inr h
  have hS : va_S A s.heap s.heap [] := va_S.rf
  have hl := lv_entry ([.ref h0, .int 2, .int p0]) (n := 4) (Nat.le_of_ble_eq_true rfl)
  rw [lg_entry_eq]
  generalize (lg_sl ([.ref h0, .int 2, .int p0]) ++ List.replicate (4 - (lg_sl ([.ref h0, .int 2, .int p0])).length) Slot.unset).toArray = ls at hl ⊢
  have hl : lv_has ls 4 [(0, .ref h0), (1, .int 2), (2, .int p0)] := hl
  refine lv_iconst (v := 0) hx hb dX9_append_0 (by decide) ?_
  refine lv_istore_n (lv' := [(3, .int 0), (0, .ref h0), (1, .int 2), (2, .int p0)]) hx hb dX9_append_1 rfl hl (by decide) rfl (fun ls hl => ?_)
  refine lv_iload_n hx hb dX9_append_2 rfl (lv_at hl 0 rfl) ?_
  refine lv_iload_n hx hb dX9_append_3 rfl (lv_at hl 2 rfl) ?_
  refine lv_icmp_ge (tgt := 48) hx hb dX9_append_4 (by decide) (fun c_1 => absurd c_1 (by decide)) (fun _ => ?_)
  change W _ _ _ _ _ _ _ _ _ _ _ _ _ _ _ (F0 m 7 ls [])
  refine lv_aload_n hx hb dX9_append_7 rfl (lv_at hl 1 rfl) ?_
  refine va_get (D := (dC, dI)) (ci := 9) (v := .int 0) (C := RX9) (T := TX9) (N := 2) hx hb hts (fun _ h9 => List.mem_cons_of_mem _ (List.mem_append_right _ h9)) hown hK hP 0 rfl rfl 1 (by decide) (hts (.fieldLink RX9 15 "SeatsRound$Tape" "length" "I") (List.mem_of_getElem? (i := 1) rfl)) (fun _ h9 => h9) rfl dX9_append_8 ?_
  refine lv_bipush (v := 80) hx hb dX9_append_11 (by decide) ?_
  refine lv_icmp_ge (tgt := 48) hx hb dX9_append_13 (by decide) (fun c_2 => absurd c_2 (by decide)) (fun _ => ?_)
  refine lv_aload_n hx hb dX9_append_16 rfl (lv_at hl 1 rfl) ?_
  refine va_get (D := (dC, dI)) (ci := 9) (v := .ref b0) (C := RX9) (T := TX9) (N := 2) hx hb hts (fun _ h9 => List.mem_cons_of_mem _ (List.mem_append_right _ h9)) hown hK hP 0 rfl rfl 0 (by decide) (hts (.fieldLink RX9 9 "SeatsRound$Tape" "bytes" "[B") (List.mem_of_getElem? (i := 2) rfl)) (fun _ h9 => h9) rfl dX9_append_17 ?_
  refine lv_aload_n hx hb dX9_append_20 rfl (lv_at hl 1 rfl) ?_
  refine va_get (D := (dC, dI)) (ci := 9) (v := .int 0) (C := RX9) (T := TX9) (N := 2) hx hb hts (fun _ h9 => List.mem_cons_of_mem _ (List.mem_append_right _ h9)) hown hK hP 0 rfl rfl 1 (by decide) (hts (.fieldLink RX9 15 "SeatsRound$Tape" "length" "I") (List.mem_of_getElem? (i := 1) rfl)) (fun _ h9 => h9) rfl dX9_append_21 ?_
  change W _ _ _ _ _ _ _ _ _ _ _ _ _ _ _ (F0 m 24 ls [.int 0, .ref b0])
  refine lv_iload_n hx hb dX9_append_24 rfl (lv_at hl 3 rfl) ?_
  refine lv_bipush (v := 8) hx hb dX9_append_25 (by decide) ?_
  refine lv_iload_n hx hb dX9_append_27 rfl (lv_at hl 0 rfl) ?_
  refine lv_imul hx hb dX9_append_28 ?_
  refine lv_topi (fun f_3 ef_3 => ?_)
  obtain rfl : f_3 = 0 := ef_3.trans (by decide)
  refine lv_iushr hx hb dX9_append_29 rfl ?_
  refine lv_topi (fun f_4 ef_4 => ?_)
  refine lv_i2b hx hb dX9_append_30 rfl ?_
  refine lv_topi (fun f_5 ef_5 => ?_)
  refine va_bast hx hb hK hP hD hS 1 1 rfl rfl (vp_in_nI (n := 0) (N := 80) (by decide) (by decide)) dX9_append_31 (fun H locs hP hD hS => ?_)
  generalize upd (fun _ => 0) (Int32.toNatClampNeg 0) (vp_nar .byte f_5) = g_6 at hP hD
  have hP : va_P (dC, dI) vwCl [(h0, .inr (9, [.ref b0, .int 0])), (b0, .inl (cy 1, 80, .inl g_6))] H := hP
  have hD : va_D A [(h0, .inr (9, [.ref b0, .int 0])), (b0, .inl (cy 1, 80, .inl g_6))] := hD
  refine lv_aload_n hx hb dX9_append_32 rfl (lv_at hl 1 rfl) ?_
  change W _ _ _ _ _ _ _ _ _ _ _ _ _ _ _ (F0 m 33 ls [.ref h0])
  refine lv_dup hx hb dX9_append_33 rfl ?_
  refine va_get (D := (dC, dI)) (ci := 9) (v := .int 0) (C := RX9) (T := TX9) (N := 2) hx hb hts (fun _ h9 => List.mem_cons_of_mem _ (List.mem_append_right _ h9)) hown hK hP 0 rfl rfl 1 (by decide) (hts (.fieldLink RX9 15 "SeatsRound$Tape" "length" "I") (List.mem_of_getElem? (i := 1) rfl)) (fun _ h9 => h9) rfl dX9_append_34 ?_
  refine lv_iconst (v := 1) hx hb dX9_append_37 (by decide) ?_
  refine lv_iadd hx hb dX9_append_38 ?_
  refine lv_topi (fun f_7 ef_7 => ?_)
  obtain rfl : f_7 = 1 := ef_7.trans (by decide)
  refine va_put (D := (dC, dI)) (ci := 9) (v := .int 1) (C := RX9) (T := TX9) (N := 2) hx hb hts (fun _ h9 => List.mem_cons_of_mem _ (List.mem_append_right _ h9)) tyX9 tyX9_ok nmX9 hown hK hP hD hS 0 rfl rfl 1 (by decide) (hts (.fieldLink RX9 15 "SeatsRound$Tape" "length" "I") (List.mem_of_getElem? (i := 1) rfl)) (fun _ h9 => h9) rfl (tyX9_ok 1 (by decide)) rfl rfl (Nat.le_of_ble_eq_true rfl) dX9_append_39 (fun H locs hP hD hS => ?_)
  have hP : va_P (dC, dI) vwCl [(h0, .inr (9, [.ref b0, .int 1])), (b0, .inl (cy 1, 80, .inl g_6))] H := hP
  have hD : va_D A [(h0, .inr (9, [.ref b0, .int 1])), (b0, .inl (cy 1, 80, .inl g_6))] := hD
  refine lv_iinc (v := 1) (lv' := [(3, .int 1), (0, .ref h0), (1, .int 2), (2, .int p0)]) hx hb dX9_append_42 hl (k := 0) rfl (by decide) (by decide) rfl (fun ls hl => ?_)
  refine lv_goto (tgt := 2) hx hb dX9_append_45 (by decide) ?_
  refine lv_iload_n hx hb dX9_append_2 rfl (lv_at hl 0 rfl) ?_
  change W _ _ _ _ _ _ _ _ _ _ _ _ _ _ _ (F0 m 3 ls [.int 1])
  refine lv_iload_n hx hb dX9_append_3 rfl (lv_at hl 2 rfl) ?_
  refine lv_icmp_ge (tgt := 48) hx hb dX9_append_4 (by decide) (fun c_8 => absurd c_8 (by decide)) (fun _ => ?_)
  refine lv_aload_n hx hb dX9_append_7 rfl (lv_at hl 1 rfl) ?_
  refine va_get (D := (dC, dI)) (ci := 9) (v := .int 1) (C := RX9) (T := TX9) (N := 2) hx hb hts (fun _ h9 => List.mem_cons_of_mem _ (List.mem_append_right _ h9)) hown hK hP 0 rfl rfl 1 (by decide) (hts (.fieldLink RX9 15 "SeatsRound$Tape" "length" "I") (List.mem_of_getElem? (i := 1) rfl)) (fun _ h9 => h9) rfl dX9_append_8 ?_
  refine lv_bipush (v := 80) hx hb dX9_append_11 (by decide) ?_
  refine lv_icmp_ge (tgt := 48) hx hb dX9_append_13 (by decide) (fun c_9 => absurd c_9 (by decide)) (fun _ => ?_)
  refine lv_aload_n hx hb dX9_append_16 rfl (lv_at hl 1 rfl) ?_
  refine va_get (D := (dC, dI)) (ci := 9) (v := .ref b0) (C := RX9) (T := TX9) (N := 2) hx hb hts (fun _ h9 => List.mem_cons_of_mem _ (List.mem_append_right _ h9)) hown hK hP 0 rfl rfl 0 (by decide) (hts (.fieldLink RX9 9 "SeatsRound$Tape" "bytes" "[B") (List.mem_of_getElem? (i := 2) rfl)) (fun _ h9 => h9) rfl dX9_append_17 ?_
  change W _ _ _ _ _ _ _ _ _ _ _ _ _ _ _ (F0 m 20 ls [.ref b0])
  refine lv_aload_n hx hb dX9_append_20 rfl (lv_at hl 1 rfl) ?_
  refine va_get (D := (dC, dI)) (ci := 9) (v := .int 1) (C := RX9) (T := TX9) (N := 2) hx hb hts (fun _ h9 => List.mem_cons_of_mem _ (List.mem_append_right _ h9)) hown hK hP 0 rfl rfl 1 (by decide) (hts (.fieldLink RX9 15 "SeatsRound$Tape" "length" "I") (List.mem_of_getElem? (i := 1) rfl)) (fun _ h9 => h9) rfl dX9_append_21 ?_
  refine lv_iload_n hx hb dX9_append_24 rfl (lv_at hl 3 rfl) ?_
  refine lv_bipush (v := 8) hx hb dX9_append_25 (by decide) ?_
  refine lv_iload_n hx hb dX9_append_27 rfl (lv_at hl 0 rfl) ?_
  refine lv_imul hx hb dX9_append_28 ?_
  refine lv_topi (fun f_10 ef_10 => ?_)
  obtain rfl : f_10 = 8 := ef_10.trans (by decide)
  refine lv_iushr hx hb dX9_append_29 rfl ?_
  refine lv_topi (fun f_11 ef_11 => ?_)
  refine lv_i2b hx hb dX9_append_30 rfl ?_
  refine lv_topi (fun f_12 ef_12 => ?_)
  change W _ _ _ _ _ _ _ _ _ _ _ _ _ _ _ (F0 m 31 ls [.int f_12, .int 1, .ref b0])
  refine va_bast hx hb hK hP hD hS 1 1 rfl rfl (vp_in_nI (n := 1) (N := 80) (by decide) (by decide)) dX9_append_31 (fun H locs hP hD hS => ?_)
  generalize upd g_6 (Int32.toNatClampNeg 1) (vp_nar .byte f_12) = g_13 at hP hD
  have hP : va_P (dC, dI) vwCl [(h0, .inr (9, [.ref b0, .int 1])), (b0, .inl (cy 1, 80, .inl g_13))] H := hP
  have hD : va_D A [(h0, .inr (9, [.ref b0, .int 1])), (b0, .inl (cy 1, 80, .inl g_13))] := hD
  refine lv_aload_n hx hb dX9_append_32 rfl (lv_at hl 1 rfl) ?_
  refine lv_dup hx hb dX9_append_33 rfl ?_
  refine va_get (D := (dC, dI)) (ci := 9) (v := .int 1) (C := RX9) (T := TX9) (N := 2) hx hb hts (fun _ h9 => List.mem_cons_of_mem _ (List.mem_append_right _ h9)) hown hK hP 0 rfl rfl 1 (by decide) (hts (.fieldLink RX9 15 "SeatsRound$Tape" "length" "I") (List.mem_of_getElem? (i := 1) rfl)) (fun _ h9 => h9) rfl dX9_append_34 ?_
  refine lv_iconst (v := 1) hx hb dX9_append_37 (by decide) ?_
  refine lv_iadd hx hb dX9_append_38 ?_
  refine lv_topi (fun f_14 ef_14 => ?_)
  obtain rfl : f_14 = 2 := ef_14.trans (by decide)
  refine va_put (D := (dC, dI)) (ci := 9) (v := .int 2) (C := RX9) (T := TX9) (N := 2) hx hb hts (fun _ h9 => List.mem_cons_of_mem _ (List.mem_append_right _ h9)) tyX9 tyX9_ok nmX9 hown hK hP hD hS 0 rfl rfl 1 (by decide) (hts (.fieldLink RX9 15 "SeatsRound$Tape" "length" "I") (List.mem_of_getElem? (i := 1) rfl)) (fun _ h9 => h9) rfl (tyX9_ok 1 (by decide)) rfl rfl (Nat.le_of_ble_eq_true rfl) dX9_append_39 (fun H locs hP hD hS => ?_)
  have hP : va_P (dC, dI) vwCl [(h0, .inr (9, [.ref b0, .int 2])), (b0, .inl (cy 1, 80, .inl g_13))] H := hP
  have hD : va_D A [(h0, .inr (9, [.ref b0, .int 2])), (b0, .inl (cy 1, 80, .inl g_13))] := hD
  refine lv_iinc (v := 2) (lv' := [(3, .int 2), (0, .ref h0), (1, .int 2), (2, .int p0)]) hx hb dX9_append_42 hl (k := 0) rfl (by decide) (by decide) rfl (fun ls hl => ?_)
  change W _ _ _ _ _ _ _ _ _ _ _ _ _ _ _ (F0 m 45 ls [])
  refine lv_goto (tgt := 2) hx hb dX9_append_45 (by decide) ?_
  refine lv_iload_n hx hb dX9_append_2 rfl (lv_at hl 0 rfl) ?_
  refine lv_iload_n hx hb dX9_append_3 rfl (lv_at hl 2 rfl) ?_
  refine lv_icmp_ge (tgt := 48) hx hb dX9_append_4 (by decide) (fun _ => ?_) (fun c_15 => absurd c_15 (by decide))
  have hP9 := hP.sub (ws' := [(h0, .inr (9, [.ref b0, .int 2])), (b0, .inl (cy 1, 80, .inl g_13))]) [0, 1] rfl
  have hD9 := hD.sub (ws' := [(h0, .inr (9, [.ref b0, .int 2])), (b0, .inl (cy 1, 80, .inl g_13))]) [0, 1] (by decide) rfl
  exact W.vret hx hb hr (fun t ht hW => ⟨⟨g_13, rfl, trivial, ⟨by rw [ht]; exact hP9, hD9⟩⟩, hS.F ht⟩) hS.2.2 dX9_append_48
set_option maxHeartbeats 4000000 in
set_option maxRecDepth 100000 in
theorem c_append_3 (l : Launch) (dC : Nat → ClassId) (dI : Nat → Nat → Nat) (cy : Nat → ClassId) (h0 : Nat) (b0 : Nat) (p0 : Int32) (sz : Nat)  : Met l yX9_append wsX9_append ({ frames := 1, cells := 0, slots := 0, locals := 23 }) (va_Pc [.ref h0, .int 3, .int p0] (wPre (dC, dI) cy [(h0, .inr (9, [.ref b0, .int 0])), (b0, .inl (cy 1, 80, .inl (fun _ => 0)))] sz)) (va_Qv (fun (u : Nat → Int32) => True) (fun (u : Nat → Int32) t => wAt (dC, dI) (va_A [(h0, .inr (9, [.ref b0, .int 0])), (b0, .inl (cy 1, 80, .inl (fun _ => 0)))] sz) [(h0, .inr (9, [.ref b0, .int 3])), (b0, .inl (cy 1, 80, .inl u))] t) (va_A [(h0, .inr (9, [.ref b0, .int 0])), (b0, .inl (cy 1, 80, .inl (fun _ => 0)))] sz)) 0 0 (va_A [(h0, .inr (9, [.ref b0, .int 0])), (b0, .inl (cy 1, 80, .inl (fun _ => 0)))] sz) := by
  refine Met.ofW (cc := cX9_append) (maxL := 4) (ret := none) (by decide) rfl ?_
  intro p e s m args below meth c s₁ B hml hv
  obtain ⟨rfl, hsz, hP, hK, hD0, hN⟩ := hv
  have hx := B.exec
  have hb := B.bytes
  have hr := B.returns
  have hts := atoms_spec (ws := wsX9_append) B.pre
  have hown : s.vm.findClass RX9 = some m.cls := findClass_of_methodNamed B.named
  have hlocks := B.notSynchronized
  subst hsz
  have hD := hD0.self (sz := s.heap.size)
  generalize hAe : va_A [(h0, .inr (9, [.ref b0, .int 0])), (b0, .inl (cy 1, 80, .inl (fun _ => 0)))] s.heap.size = A at hD ⊢
  have hA : ∀ q : Nat, s.heap.size ≤ q → A q := fun q h => by rw [← hAe]; exact Or.inr h
  have hS : va_S A s.heap s.heap [] := va_S.rf
  have hl := lv_entry ([.ref h0, .int 3, .int p0]) (n := 4) (Nat.le_of_ble_eq_true rfl)
  rw [lg_entry_eq]
  generalize (lg_sl ([.ref h0, .int 3, .int p0]) ++ List.replicate (4 - (lg_sl ([.ref h0, .int 3, .int p0])).length) Slot.unset).toArray = ls at hl ⊢
  have hl : lv_has ls 4 [(0, .ref h0), (1, .int 3), (2, .int p0)] := hl
  refine lv_iconst (v := 0) hx hb dX9_append_0 (by decide) ?_
  change W _ _ _ _ _ _ _ _ _ _ _ _ _ _ _ (F0 m 1 ls [.int 0])
  refine lv_istore_n (lv' := [(3, .int 0), (0, .ref h0), (1, .int 3), (2, .int p0)]) hx hb dX9_append_1 rfl hl (by decide) rfl (fun ls hl => ?_)
  refine lv_iload_n hx hb dX9_append_2 rfl (lv_at hl 0 rfl) ?_
  refine lv_iload_n hx hb dX9_append_3 rfl (lv_at hl 2 rfl) ?_
  refine lv_icmp_ge (tgt := 48) hx hb dX9_append_4 (by decide) (fun c_1 => absurd c_1 (by decide)) (fun _ => ?_)
  refine lv_aload_n hx hb dX9_append_7 rfl (lv_at hl 1 rfl) ?_
  refine va_get (D := (dC, dI)) (ci := 9) (v := .int 0) (C := RX9) (T := TX9) (N := 2) hx hb hts (fun _ h9 => List.mem_cons_of_mem _ (List.mem_append_right _ h9)) hown hK hP 0 rfl rfl 1 (by decide) (hts (.fieldLink RX9 15 "SeatsRound$Tape" "length" "I") (List.mem_of_getElem? (i := 1) rfl)) (fun _ h9 => h9) rfl dX9_append_8 ?_
  refine lv_bipush (v := 80) hx hb dX9_append_11 (by decide) ?_
  refine lv_icmp_ge (tgt := 48) hx hb dX9_append_13 (by decide) (fun c_2 => absurd c_2 (by decide)) (fun _ => ?_)
  change W _ _ _ _ _ _ _ _ _ _ _ _ _ _ _ (F0 m 16 ls [])
  refine lv_aload_n hx hb dX9_append_16 rfl (lv_at hl 1 rfl) ?_
  refine va_get (D := (dC, dI)) (ci := 9) (v := .ref b0) (C := RX9) (T := TX9) (N := 2) hx hb hts (fun _ h9 => List.mem_cons_of_mem _ (List.mem_append_right _ h9)) hown hK hP 0 rfl rfl 0 (by decide) (hts (.fieldLink RX9 9 "SeatsRound$Tape" "bytes" "[B") (List.mem_of_getElem? (i := 2) rfl)) (fun _ h9 => h9) rfl dX9_append_17 ?_
  refine lv_aload_n hx hb dX9_append_20 rfl (lv_at hl 1 rfl) ?_
  refine va_get (D := (dC, dI)) (ci := 9) (v := .int 0) (C := RX9) (T := TX9) (N := 2) hx hb hts (fun _ h9 => List.mem_cons_of_mem _ (List.mem_append_right _ h9)) hown hK hP 0 rfl rfl 1 (by decide) (hts (.fieldLink RX9 15 "SeatsRound$Tape" "length" "I") (List.mem_of_getElem? (i := 1) rfl)) (fun _ h9 => h9) rfl dX9_append_21 ?_
  refine lv_iload_n hx hb dX9_append_24 rfl (lv_at hl 3 rfl) ?_
  refine lv_bipush (v := 8) hx hb dX9_append_25 (by decide) ?_
  refine lv_iload_n hx hb dX9_append_27 rfl (lv_at hl 0 rfl) ?_
  refine lv_imul hx hb dX9_append_28 ?_
  refine lv_topi (fun f_3 ef_3 => ?_)
  obtain rfl : f_3 = 0 := ef_3.trans (by decide)
  change W _ _ _ _ _ _ _ _ _ _ _ _ _ _ _ (F0 m 29 ls [.int 0, .int p0, .int 0, .ref b0])
  refine lv_iushr hx hb dX9_append_29 rfl ?_
  refine lv_topi (fun f_4 ef_4 => ?_)
  refine lv_i2b hx hb dX9_append_30 rfl ?_
  refine lv_topi (fun f_5 ef_5 => ?_)
  refine va_bast hx hb hK hP hD hS 1 1 rfl rfl (vp_in_nI (n := 0) (N := 80) (by decide) (by decide)) dX9_append_31 (fun H locs hP hD hS => ?_)
  generalize upd (fun _ => 0) (Int32.toNatClampNeg 0) (vp_nar .byte f_5) = g_6 at hP hD
  have hP : va_P (dC, dI) vwCl [(h0, .inr (9, [.ref b0, .int 0])), (b0, .inl (cy 1, 80, .inl g_6))] H := hP
  have hD : va_D A [(h0, .inr (9, [.ref b0, .int 0])), (b0, .inl (cy 1, 80, .inl g_6))] := hD
  refine lv_aload_n hx hb dX9_append_32 rfl (lv_at hl 1 rfl) ?_
  refine lv_dup hx hb dX9_append_33 rfl ?_
  refine va_get (D := (dC, dI)) (ci := 9) (v := .int 0) (C := RX9) (T := TX9) (N := 2) hx hb hts (fun _ h9 => List.mem_cons_of_mem _ (List.mem_append_right _ h9)) hown hK hP 0 rfl rfl 1 (by decide) (hts (.fieldLink RX9 15 "SeatsRound$Tape" "length" "I") (List.mem_of_getElem? (i := 1) rfl)) (fun _ h9 => h9) rfl dX9_append_34 ?_
  refine lv_iconst (v := 1) hx hb dX9_append_37 (by decide) ?_
  refine lv_iadd hx hb dX9_append_38 ?_
  refine lv_topi (fun f_7 ef_7 => ?_)
  obtain rfl : f_7 = 1 := ef_7.trans (by decide)
  change W _ _ _ _ _ _ _ _ _ _ _ _ _ _ _ (F0 m 39 ls [.int 1, .ref h0])
  refine va_put (D := (dC, dI)) (ci := 9) (v := .int 1) (C := RX9) (T := TX9) (N := 2) hx hb hts (fun _ h9 => List.mem_cons_of_mem _ (List.mem_append_right _ h9)) tyX9 tyX9_ok nmX9 hown hK hP hD hS 0 rfl rfl 1 (by decide) (hts (.fieldLink RX9 15 "SeatsRound$Tape" "length" "I") (List.mem_of_getElem? (i := 1) rfl)) (fun _ h9 => h9) rfl (tyX9_ok 1 (by decide)) rfl rfl (Nat.le_of_ble_eq_true rfl) dX9_append_39 (fun H locs hP hD hS => ?_)
  have hP : va_P (dC, dI) vwCl [(h0, .inr (9, [.ref b0, .int 1])), (b0, .inl (cy 1, 80, .inl g_6))] H := hP
  have hD : va_D A [(h0, .inr (9, [.ref b0, .int 1])), (b0, .inl (cy 1, 80, .inl g_6))] := hD
  refine lv_iinc (v := 1) (lv' := [(3, .int 1), (0, .ref h0), (1, .int 3), (2, .int p0)]) hx hb dX9_append_42 hl (k := 0) rfl (by decide) (by decide) rfl (fun ls hl => ?_)
  refine lv_goto (tgt := 2) hx hb dX9_append_45 (by decide) ?_
  refine lv_iload_n hx hb dX9_append_2 rfl (lv_at hl 0 rfl) ?_
  refine lv_iload_n hx hb dX9_append_3 rfl (lv_at hl 2 rfl) ?_
  refine lv_icmp_ge (tgt := 48) hx hb dX9_append_4 (by decide) (fun c_8 => absurd c_8 (by decide)) (fun _ => ?_)
  refine lv_aload_n hx hb dX9_append_7 rfl (lv_at hl 1 rfl) ?_
  refine va_get (D := (dC, dI)) (ci := 9) (v := .int 1) (C := RX9) (T := TX9) (N := 2) hx hb hts (fun _ h9 => List.mem_cons_of_mem _ (List.mem_append_right _ h9)) hown hK hP 0 rfl rfl 1 (by decide) (hts (.fieldLink RX9 15 "SeatsRound$Tape" "length" "I") (List.mem_of_getElem? (i := 1) rfl)) (fun _ h9 => h9) rfl dX9_append_8 ?_
  change W _ _ _ _ _ _ _ _ _ _ _ _ _ _ _ (F0 m 11 ls [.int 1])
  refine lv_bipush (v := 80) hx hb dX9_append_11 (by decide) ?_
  refine lv_icmp_ge (tgt := 48) hx hb dX9_append_13 (by decide) (fun c_9 => absurd c_9 (by decide)) (fun _ => ?_)
  refine lv_aload_n hx hb dX9_append_16 rfl (lv_at hl 1 rfl) ?_
  refine va_get (D := (dC, dI)) (ci := 9) (v := .ref b0) (C := RX9) (T := TX9) (N := 2) hx hb hts (fun _ h9 => List.mem_cons_of_mem _ (List.mem_append_right _ h9)) hown hK hP 0 rfl rfl 0 (by decide) (hts (.fieldLink RX9 9 "SeatsRound$Tape" "bytes" "[B") (List.mem_of_getElem? (i := 2) rfl)) (fun _ h9 => h9) rfl dX9_append_17 ?_
  refine lv_aload_n hx hb dX9_append_20 rfl (lv_at hl 1 rfl) ?_
  refine va_get (D := (dC, dI)) (ci := 9) (v := .int 1) (C := RX9) (T := TX9) (N := 2) hx hb hts (fun _ h9 => List.mem_cons_of_mem _ (List.mem_append_right _ h9)) hown hK hP 0 rfl rfl 1 (by decide) (hts (.fieldLink RX9 15 "SeatsRound$Tape" "length" "I") (List.mem_of_getElem? (i := 1) rfl)) (fun _ h9 => h9) rfl dX9_append_21 ?_
  refine lv_iload_n hx hb dX9_append_24 rfl (lv_at hl 3 rfl) ?_
  refine lv_bipush (v := 8) hx hb dX9_append_25 (by decide) ?_
  change W _ _ _ _ _ _ _ _ _ _ _ _ _ _ _ (F0 m 27 ls [.int 8, .int p0, .int 1, .ref b0])
  refine lv_iload_n hx hb dX9_append_27 rfl (lv_at hl 0 rfl) ?_
  refine lv_imul hx hb dX9_append_28 ?_
  refine lv_topi (fun f_10 ef_10 => ?_)
  obtain rfl : f_10 = 8 := ef_10.trans (by decide)
  refine lv_iushr hx hb dX9_append_29 rfl ?_
  refine lv_topi (fun f_11 ef_11 => ?_)
  refine lv_i2b hx hb dX9_append_30 rfl ?_
  refine lv_topi (fun f_12 ef_12 => ?_)
  refine va_bast hx hb hK hP hD hS 1 1 rfl rfl (vp_in_nI (n := 1) (N := 80) (by decide) (by decide)) dX9_append_31 (fun H locs hP hD hS => ?_)
  generalize upd g_6 (Int32.toNatClampNeg 1) (vp_nar .byte f_12) = g_13 at hP hD
  have hP : va_P (dC, dI) vwCl [(h0, .inr (9, [.ref b0, .int 1])), (b0, .inl (cy 1, 80, .inl g_13))] H := hP
  have hD : va_D A [(h0, .inr (9, [.ref b0, .int 1])), (b0, .inl (cy 1, 80, .inl g_13))] := hD
  refine lv_aload_n hx hb dX9_append_32 rfl (lv_at hl 1 rfl) ?_
  refine lv_dup hx hb dX9_append_33 rfl ?_
  refine va_get (D := (dC, dI)) (ci := 9) (v := .int 1) (C := RX9) (T := TX9) (N := 2) hx hb hts (fun _ h9 => List.mem_cons_of_mem _ (List.mem_append_right _ h9)) hown hK hP 0 rfl rfl 1 (by decide) (hts (.fieldLink RX9 15 "SeatsRound$Tape" "length" "I") (List.mem_of_getElem? (i := 1) rfl)) (fun _ h9 => h9) rfl dX9_append_34 ?_
  change W _ _ _ _ _ _ _ _ _ _ _ _ _ _ _ (F0 m 37 ls [.int 1, .ref h0])
  refine lv_iconst (v := 1) hx hb dX9_append_37 (by decide) ?_
  refine lv_iadd hx hb dX9_append_38 ?_
  refine lv_topi (fun f_14 ef_14 => ?_)
  obtain rfl : f_14 = 2 := ef_14.trans (by decide)
  refine va_put (D := (dC, dI)) (ci := 9) (v := .int 2) (C := RX9) (T := TX9) (N := 2) hx hb hts (fun _ h9 => List.mem_cons_of_mem _ (List.mem_append_right _ h9)) tyX9 tyX9_ok nmX9 hown hK hP hD hS 0 rfl rfl 1 (by decide) (hts (.fieldLink RX9 15 "SeatsRound$Tape" "length" "I") (List.mem_of_getElem? (i := 1) rfl)) (fun _ h9 => h9) rfl (tyX9_ok 1 (by decide)) rfl rfl (Nat.le_of_ble_eq_true rfl) dX9_append_39 (fun H locs hP hD hS => ?_)
  have hP : va_P (dC, dI) vwCl [(h0, .inr (9, [.ref b0, .int 2])), (b0, .inl (cy 1, 80, .inl g_13))] H := hP
  have hD : va_D A [(h0, .inr (9, [.ref b0, .int 2])), (b0, .inl (cy 1, 80, .inl g_13))] := hD
  refine lv_iinc (v := 2) (lv' := [(3, .int 2), (0, .ref h0), (1, .int 3), (2, .int p0)]) hx hb dX9_append_42 hl (k := 0) rfl (by decide) (by decide) rfl (fun ls hl => ?_)
  refine lv_goto (tgt := 2) hx hb dX9_append_45 (by decide) ?_
  refine lv_iload_n hx hb dX9_append_2 rfl (lv_at hl 0 rfl) ?_
  refine lv_iload_n hx hb dX9_append_3 rfl (lv_at hl 2 rfl) ?_
  refine lv_icmp_ge (tgt := 48) hx hb dX9_append_4 (by decide) (fun c_15 => absurd c_15 (by decide)) (fun _ => ?_)
  change W _ _ _ _ _ _ _ _ _ _ _ _ _ _ _ (F0 m 7 ls [])
  refine lv_aload_n hx hb dX9_append_7 rfl (lv_at hl 1 rfl) ?_
  refine va_get (D := (dC, dI)) (ci := 9) (v := .int 2) (C := RX9) (T := TX9) (N := 2) hx hb hts (fun _ h9 => List.mem_cons_of_mem _ (List.mem_append_right _ h9)) hown hK hP 0 rfl rfl 1 (by decide) (hts (.fieldLink RX9 15 "SeatsRound$Tape" "length" "I") (List.mem_of_getElem? (i := 1) rfl)) (fun _ h9 => h9) rfl dX9_append_8 ?_
  refine lv_bipush (v := 80) hx hb dX9_append_11 (by decide) ?_
  refine lv_icmp_ge (tgt := 48) hx hb dX9_append_13 (by decide) (fun c_16 => absurd c_16 (by decide)) (fun _ => ?_)
  refine lv_aload_n hx hb dX9_append_16 rfl (lv_at hl 1 rfl) ?_
  refine va_get (D := (dC, dI)) (ci := 9) (v := .ref b0) (C := RX9) (T := TX9) (N := 2) hx hb hts (fun _ h9 => List.mem_cons_of_mem _ (List.mem_append_right _ h9)) hown hK hP 0 rfl rfl 0 (by decide) (hts (.fieldLink RX9 9 "SeatsRound$Tape" "bytes" "[B") (List.mem_of_getElem? (i := 2) rfl)) (fun _ h9 => h9) rfl dX9_append_17 ?_
  refine lv_aload_n hx hb dX9_append_20 rfl (lv_at hl 1 rfl) ?_
  refine va_get (D := (dC, dI)) (ci := 9) (v := .int 2) (C := RX9) (T := TX9) (N := 2) hx hb hts (fun _ h9 => List.mem_cons_of_mem _ (List.mem_append_right _ h9)) hown hK hP 0 rfl rfl 1 (by decide) (hts (.fieldLink RX9 15 "SeatsRound$Tape" "length" "I") (List.mem_of_getElem? (i := 1) rfl)) (fun _ h9 => h9) rfl dX9_append_21 ?_
  change W _ _ _ _ _ _ _ _ _ _ _ _ _ _ _ (F0 m 24 ls [.int 2, .ref b0])
  refine lv_iload_n hx hb dX9_append_24 rfl (lv_at hl 3 rfl) ?_
  refine lv_bipush (v := 8) hx hb dX9_append_25 (by decide) ?_
  refine lv_iload_n hx hb dX9_append_27 rfl (lv_at hl 0 rfl) ?_
  refine lv_imul hx hb dX9_append_28 ?_
  refine lv_topi (fun f_17 ef_17 => ?_)
  obtain rfl : f_17 = 16 := ef_17.trans (by decide)
  refine lv_iushr hx hb dX9_append_29 rfl ?_
  refine lv_topi (fun f_18 ef_18 => ?_)
  refine lv_i2b hx hb dX9_append_30 rfl ?_
  refine lv_topi (fun f_19 ef_19 => ?_)
  refine va_bast hx hb hK hP hD hS 1 1 rfl rfl (vp_in_nI (n := 2) (N := 80) (by decide) (by decide)) dX9_append_31 (fun H locs hP hD hS => ?_)
  generalize upd g_13 (Int32.toNatClampNeg 2) (vp_nar .byte f_19) = g_20 at hP hD
  have hP : va_P (dC, dI) vwCl [(h0, .inr (9, [.ref b0, .int 2])), (b0, .inl (cy 1, 80, .inl g_20))] H := hP
  have hD : va_D A [(h0, .inr (9, [.ref b0, .int 2])), (b0, .inl (cy 1, 80, .inl g_20))] := hD
  refine lv_aload_n hx hb dX9_append_32 rfl (lv_at hl 1 rfl) ?_
  change W _ _ _ _ _ _ _ _ _ _ _ _ _ _ _ (F0 m 33 ls [.ref h0])
  refine lv_dup hx hb dX9_append_33 rfl ?_
  refine va_get (D := (dC, dI)) (ci := 9) (v := .int 2) (C := RX9) (T := TX9) (N := 2) hx hb hts (fun _ h9 => List.mem_cons_of_mem _ (List.mem_append_right _ h9)) hown hK hP 0 rfl rfl 1 (by decide) (hts (.fieldLink RX9 15 "SeatsRound$Tape" "length" "I") (List.mem_of_getElem? (i := 1) rfl)) (fun _ h9 => h9) rfl dX9_append_34 ?_
  refine lv_iconst (v := 1) hx hb dX9_append_37 (by decide) ?_
  refine lv_iadd hx hb dX9_append_38 ?_
  refine lv_topi (fun f_21 ef_21 => ?_)
  obtain rfl : f_21 = 3 := ef_21.trans (by decide)
  refine va_put (D := (dC, dI)) (ci := 9) (v := .int 3) (C := RX9) (T := TX9) (N := 2) hx hb hts (fun _ h9 => List.mem_cons_of_mem _ (List.mem_append_right _ h9)) tyX9 tyX9_ok nmX9 hown hK hP hD hS 0 rfl rfl 1 (by decide) (hts (.fieldLink RX9 15 "SeatsRound$Tape" "length" "I") (List.mem_of_getElem? (i := 1) rfl)) (fun _ h9 => h9) rfl (tyX9_ok 1 (by decide)) rfl rfl (Nat.le_of_ble_eq_true rfl) dX9_append_39 (fun H locs hP hD hS => ?_)
  have hP : va_P (dC, dI) vwCl [(h0, .inr (9, [.ref b0, .int 3])), (b0, .inl (cy 1, 80, .inl g_20))] H := hP
  have hD : va_D A [(h0, .inr (9, [.ref b0, .int 3])), (b0, .inl (cy 1, 80, .inl g_20))] := hD
  refine lv_iinc (v := 3) (lv' := [(3, .int 3), (0, .ref h0), (1, .int 3), (2, .int p0)]) hx hb dX9_append_42 hl (k := 0) rfl (by decide) (by decide) rfl (fun ls hl => ?_)
  refine lv_goto (tgt := 2) hx hb dX9_append_45 (by decide) ?_
  refine lv_iload_n hx hb dX9_append_2 rfl (lv_at hl 0 rfl) ?_
  change W _ _ _ _ _ _ _ _ _ _ _ _ _ _ _ (F0 m 3 ls [.int 3])
  refine lv_iload_n hx hb dX9_append_3 rfl (lv_at hl 2 rfl) ?_
  refine lv_icmp_ge (tgt := 48) hx hb dX9_append_4 (by decide) (fun _ => ?_) (fun c_22 => absurd c_22 (by decide))
  have hP9 := hP.sub (ws' := [(h0, .inr (9, [.ref b0, .int 3])), (b0, .inl (cy 1, 80, .inl g_20))]) [0, 1] rfl
  have hD9 := hD.sub (ws' := [(h0, .inr (9, [.ref b0, .int 3])), (b0, .inl (cy 1, 80, .inl g_20))]) [0, 1] (by decide) rfl
  exact W.vret hx hb hr (fun t ht hW => ⟨⟨g_20, rfl, trivial, ⟨by rw [ht]; exact hP9, hD9⟩⟩, hS.F ht⟩) hS.2.2 dX9_append_48
set_option maxHeartbeats 4000000 in
set_option maxRecDepth 100000 in
theorem c_append_4 (l : Launch) (dC : Nat → ClassId) (dI : Nat → Nat → Nat) (cy : Nat → ClassId) (h0 : Nat) (b0 : Nat) (p0 : Int32) (sz : Nat)  : Met l yX9_append wsX9_append ({ frames := 1, cells := 0, slots := 0, locals := 23 }) (va_Pc [.ref h0, .int 4, .int p0] (wPre (dC, dI) cy [(h0, .inr (9, [.ref b0, .int 0])), (b0, .inl (cy 1, 80, .inl (fun _ => 0)))] sz)) (va_Qv (fun (u : Nat → Int32) => True) (fun (u : Nat → Int32) t => wAt (dC, dI) (va_A [(h0, .inr (9, [.ref b0, .int 0])), (b0, .inl (cy 1, 80, .inl (fun _ => 0)))] sz) [(h0, .inr (9, [.ref b0, .int 4])), (b0, .inl (cy 1, 80, .inl u))] t) (va_A [(h0, .inr (9, [.ref b0, .int 0])), (b0, .inl (cy 1, 80, .inl (fun _ => 0)))] sz)) 0 0 (va_A [(h0, .inr (9, [.ref b0, .int 0])), (b0, .inl (cy 1, 80, .inl (fun _ => 0)))] sz) := by
  refine Met.ofW (cc := cX9_append) (maxL := 4) (ret := none) (by decide) rfl ?_
  intro p e s m args below meth c s₁ B hml hv
  obtain ⟨rfl, hsz, hP, hK, hD0, hN⟩ := hv
  have hx := B.exec
  have hb := B.bytes
  have hr := B.returns
  have hts := atoms_spec (ws := wsX9_append) B.pre
  have hown : s.vm.findClass RX9 = some m.cls := findClass_of_methodNamed B.named
  have hlocks := B.notSynchronized
  subst hsz
  have hD := hD0.self (sz := s.heap.size)
  generalize hAe : va_A [(h0, .inr (9, [.ref b0, .int 0])), (b0, .inl (cy 1, 80, .inl (fun _ => 0)))] s.heap.size = A at hD ⊢
  have hA : ∀ q : Nat, s.heap.size ≤ q → A q := fun q h => by rw [← hAe]; exact Or.inr h
  have hS : va_S A s.heap s.heap [] := va_S.rf
  have hl := lv_entry ([.ref h0, .int 4, .int p0]) (n := 4) (Nat.le_of_ble_eq_true rfl)
  rw [lg_entry_eq]
  generalize (lg_sl ([.ref h0, .int 4, .int p0]) ++ List.replicate (4 - (lg_sl ([.ref h0, .int 4, .int p0])).length) Slot.unset).toArray = ls at hl ⊢
  have hl : lv_has ls 4 [(0, .ref h0), (1, .int 4), (2, .int p0)] := hl
  refine lv_iconst (v := 0) hx hb dX9_append_0 (by decide) ?_
  change W _ _ _ _ _ _ _ _ _ _ _ _ _ _ _ (F0 m 1 ls [.int 0])
  refine lv_istore_n (lv' := [(3, .int 0), (0, .ref h0), (1, .int 4), (2, .int p0)]) hx hb dX9_append_1 rfl hl (by decide) rfl (fun ls hl => ?_)
  refine lv_iload_n hx hb dX9_append_2 rfl (lv_at hl 0 rfl) ?_
  refine lv_iload_n hx hb dX9_append_3 rfl (lv_at hl 2 rfl) ?_
  refine lv_icmp_ge (tgt := 48) hx hb dX9_append_4 (by decide) (fun c_1 => absurd c_1 (by decide)) (fun _ => ?_)
  refine lv_aload_n hx hb dX9_append_7 rfl (lv_at hl 1 rfl) ?_
  refine va_get (D := (dC, dI)) (ci := 9) (v := .int 0) (C := RX9) (T := TX9) (N := 2) hx hb hts (fun _ h9 => List.mem_cons_of_mem _ (List.mem_append_right _ h9)) hown hK hP 0 rfl rfl 1 (by decide) (hts (.fieldLink RX9 15 "SeatsRound$Tape" "length" "I") (List.mem_of_getElem? (i := 1) rfl)) (fun _ h9 => h9) rfl dX9_append_8 ?_
  refine lv_bipush (v := 80) hx hb dX9_append_11 (by decide) ?_
  refine lv_icmp_ge (tgt := 48) hx hb dX9_append_13 (by decide) (fun c_2 => absurd c_2 (by decide)) (fun _ => ?_)
  change W _ _ _ _ _ _ _ _ _ _ _ _ _ _ _ (F0 m 16 ls [])
  refine lv_aload_n hx hb dX9_append_16 rfl (lv_at hl 1 rfl) ?_
  refine va_get (D := (dC, dI)) (ci := 9) (v := .ref b0) (C := RX9) (T := TX9) (N := 2) hx hb hts (fun _ h9 => List.mem_cons_of_mem _ (List.mem_append_right _ h9)) hown hK hP 0 rfl rfl 0 (by decide) (hts (.fieldLink RX9 9 "SeatsRound$Tape" "bytes" "[B") (List.mem_of_getElem? (i := 2) rfl)) (fun _ h9 => h9) rfl dX9_append_17 ?_
  refine lv_aload_n hx hb dX9_append_20 rfl (lv_at hl 1 rfl) ?_
  refine va_get (D := (dC, dI)) (ci := 9) (v := .int 0) (C := RX9) (T := TX9) (N := 2) hx hb hts (fun _ h9 => List.mem_cons_of_mem _ (List.mem_append_right _ h9)) hown hK hP 0 rfl rfl 1 (by decide) (hts (.fieldLink RX9 15 "SeatsRound$Tape" "length" "I") (List.mem_of_getElem? (i := 1) rfl)) (fun _ h9 => h9) rfl dX9_append_21 ?_
  refine lv_iload_n hx hb dX9_append_24 rfl (lv_at hl 3 rfl) ?_
  refine lv_bipush (v := 8) hx hb dX9_append_25 (by decide) ?_
  refine lv_iload_n hx hb dX9_append_27 rfl (lv_at hl 0 rfl) ?_
  refine lv_imul hx hb dX9_append_28 ?_
  refine lv_topi (fun f_3 ef_3 => ?_)
  obtain rfl : f_3 = 0 := ef_3.trans (by decide)
  change W _ _ _ _ _ _ _ _ _ _ _ _ _ _ _ (F0 m 29 ls [.int 0, .int p0, .int 0, .ref b0])
  refine lv_iushr hx hb dX9_append_29 rfl ?_
  refine lv_topi (fun f_4 ef_4 => ?_)
  refine lv_i2b hx hb dX9_append_30 rfl ?_
  refine lv_topi (fun f_5 ef_5 => ?_)
  refine va_bast hx hb hK hP hD hS 1 1 rfl rfl (vp_in_nI (n := 0) (N := 80) (by decide) (by decide)) dX9_append_31 (fun H locs hP hD hS => ?_)
  generalize upd (fun _ => 0) (Int32.toNatClampNeg 0) (vp_nar .byte f_5) = g_6 at hP hD
  have hP : va_P (dC, dI) vwCl [(h0, .inr (9, [.ref b0, .int 0])), (b0, .inl (cy 1, 80, .inl g_6))] H := hP
  have hD : va_D A [(h0, .inr (9, [.ref b0, .int 0])), (b0, .inl (cy 1, 80, .inl g_6))] := hD
  refine lv_aload_n hx hb dX9_append_32 rfl (lv_at hl 1 rfl) ?_
  refine lv_dup hx hb dX9_append_33 rfl ?_
  refine va_get (D := (dC, dI)) (ci := 9) (v := .int 0) (C := RX9) (T := TX9) (N := 2) hx hb hts (fun _ h9 => List.mem_cons_of_mem _ (List.mem_append_right _ h9)) hown hK hP 0 rfl rfl 1 (by decide) (hts (.fieldLink RX9 15 "SeatsRound$Tape" "length" "I") (List.mem_of_getElem? (i := 1) rfl)) (fun _ h9 => h9) rfl dX9_append_34 ?_
  refine lv_iconst (v := 1) hx hb dX9_append_37 (by decide) ?_
  refine lv_iadd hx hb dX9_append_38 ?_
  refine lv_topi (fun f_7 ef_7 => ?_)
  obtain rfl : f_7 = 1 := ef_7.trans (by decide)
  change W _ _ _ _ _ _ _ _ _ _ _ _ _ _ _ (F0 m 39 ls [.int 1, .ref h0])
  refine va_put (D := (dC, dI)) (ci := 9) (v := .int 1) (C := RX9) (T := TX9) (N := 2) hx hb hts (fun _ h9 => List.mem_cons_of_mem _ (List.mem_append_right _ h9)) tyX9 tyX9_ok nmX9 hown hK hP hD hS 0 rfl rfl 1 (by decide) (hts (.fieldLink RX9 15 "SeatsRound$Tape" "length" "I") (List.mem_of_getElem? (i := 1) rfl)) (fun _ h9 => h9) rfl (tyX9_ok 1 (by decide)) rfl rfl (Nat.le_of_ble_eq_true rfl) dX9_append_39 (fun H locs hP hD hS => ?_)
  have hP : va_P (dC, dI) vwCl [(h0, .inr (9, [.ref b0, .int 1])), (b0, .inl (cy 1, 80, .inl g_6))] H := hP
  have hD : va_D A [(h0, .inr (9, [.ref b0, .int 1])), (b0, .inl (cy 1, 80, .inl g_6))] := hD
  refine lv_iinc (v := 1) (lv' := [(3, .int 1), (0, .ref h0), (1, .int 4), (2, .int p0)]) hx hb dX9_append_42 hl (k := 0) rfl (by decide) (by decide) rfl (fun ls hl => ?_)
  refine lv_goto (tgt := 2) hx hb dX9_append_45 (by decide) ?_
  refine lv_iload_n hx hb dX9_append_2 rfl (lv_at hl 0 rfl) ?_
  refine lv_iload_n hx hb dX9_append_3 rfl (lv_at hl 2 rfl) ?_
  refine lv_icmp_ge (tgt := 48) hx hb dX9_append_4 (by decide) (fun c_8 => absurd c_8 (by decide)) (fun _ => ?_)
  refine lv_aload_n hx hb dX9_append_7 rfl (lv_at hl 1 rfl) ?_
  refine va_get (D := (dC, dI)) (ci := 9) (v := .int 1) (C := RX9) (T := TX9) (N := 2) hx hb hts (fun _ h9 => List.mem_cons_of_mem _ (List.mem_append_right _ h9)) hown hK hP 0 rfl rfl 1 (by decide) (hts (.fieldLink RX9 15 "SeatsRound$Tape" "length" "I") (List.mem_of_getElem? (i := 1) rfl)) (fun _ h9 => h9) rfl dX9_append_8 ?_
  change W _ _ _ _ _ _ _ _ _ _ _ _ _ _ _ (F0 m 11 ls [.int 1])
  refine lv_bipush (v := 80) hx hb dX9_append_11 (by decide) ?_
  refine lv_icmp_ge (tgt := 48) hx hb dX9_append_13 (by decide) (fun c_9 => absurd c_9 (by decide)) (fun _ => ?_)
  refine lv_aload_n hx hb dX9_append_16 rfl (lv_at hl 1 rfl) ?_
  refine va_get (D := (dC, dI)) (ci := 9) (v := .ref b0) (C := RX9) (T := TX9) (N := 2) hx hb hts (fun _ h9 => List.mem_cons_of_mem _ (List.mem_append_right _ h9)) hown hK hP 0 rfl rfl 0 (by decide) (hts (.fieldLink RX9 9 "SeatsRound$Tape" "bytes" "[B") (List.mem_of_getElem? (i := 2) rfl)) (fun _ h9 => h9) rfl dX9_append_17 ?_
  refine lv_aload_n hx hb dX9_append_20 rfl (lv_at hl 1 rfl) ?_
  refine va_get (D := (dC, dI)) (ci := 9) (v := .int 1) (C := RX9) (T := TX9) (N := 2) hx hb hts (fun _ h9 => List.mem_cons_of_mem _ (List.mem_append_right _ h9)) hown hK hP 0 rfl rfl 1 (by decide) (hts (.fieldLink RX9 15 "SeatsRound$Tape" "length" "I") (List.mem_of_getElem? (i := 1) rfl)) (fun _ h9 => h9) rfl dX9_append_21 ?_
  refine lv_iload_n hx hb dX9_append_24 rfl (lv_at hl 3 rfl) ?_
  refine lv_bipush (v := 8) hx hb dX9_append_25 (by decide) ?_
  change W _ _ _ _ _ _ _ _ _ _ _ _ _ _ _ (F0 m 27 ls [.int 8, .int p0, .int 1, .ref b0])
  refine lv_iload_n hx hb dX9_append_27 rfl (lv_at hl 0 rfl) ?_
  refine lv_imul hx hb dX9_append_28 ?_
  refine lv_topi (fun f_10 ef_10 => ?_)
  obtain rfl : f_10 = 8 := ef_10.trans (by decide)
  refine lv_iushr hx hb dX9_append_29 rfl ?_
  refine lv_topi (fun f_11 ef_11 => ?_)
  refine lv_i2b hx hb dX9_append_30 rfl ?_
  refine lv_topi (fun f_12 ef_12 => ?_)
  refine va_bast hx hb hK hP hD hS 1 1 rfl rfl (vp_in_nI (n := 1) (N := 80) (by decide) (by decide)) dX9_append_31 (fun H locs hP hD hS => ?_)
  generalize upd g_6 (Int32.toNatClampNeg 1) (vp_nar .byte f_12) = g_13 at hP hD
  have hP : va_P (dC, dI) vwCl [(h0, .inr (9, [.ref b0, .int 1])), (b0, .inl (cy 1, 80, .inl g_13))] H := hP
  have hD : va_D A [(h0, .inr (9, [.ref b0, .int 1])), (b0, .inl (cy 1, 80, .inl g_13))] := hD
  refine lv_aload_n hx hb dX9_append_32 rfl (lv_at hl 1 rfl) ?_
  refine lv_dup hx hb dX9_append_33 rfl ?_
  refine va_get (D := (dC, dI)) (ci := 9) (v := .int 1) (C := RX9) (T := TX9) (N := 2) hx hb hts (fun _ h9 => List.mem_cons_of_mem _ (List.mem_append_right _ h9)) hown hK hP 0 rfl rfl 1 (by decide) (hts (.fieldLink RX9 15 "SeatsRound$Tape" "length" "I") (List.mem_of_getElem? (i := 1) rfl)) (fun _ h9 => h9) rfl dX9_append_34 ?_
  change W _ _ _ _ _ _ _ _ _ _ _ _ _ _ _ (F0 m 37 ls [.int 1, .ref h0])
  refine lv_iconst (v := 1) hx hb dX9_append_37 (by decide) ?_
  refine lv_iadd hx hb dX9_append_38 ?_
  refine lv_topi (fun f_14 ef_14 => ?_)
  obtain rfl : f_14 = 2 := ef_14.trans (by decide)
  refine va_put (D := (dC, dI)) (ci := 9) (v := .int 2) (C := RX9) (T := TX9) (N := 2) hx hb hts (fun _ h9 => List.mem_cons_of_mem _ (List.mem_append_right _ h9)) tyX9 tyX9_ok nmX9 hown hK hP hD hS 0 rfl rfl 1 (by decide) (hts (.fieldLink RX9 15 "SeatsRound$Tape" "length" "I") (List.mem_of_getElem? (i := 1) rfl)) (fun _ h9 => h9) rfl (tyX9_ok 1 (by decide)) rfl rfl (Nat.le_of_ble_eq_true rfl) dX9_append_39 (fun H locs hP hD hS => ?_)
  have hP : va_P (dC, dI) vwCl [(h0, .inr (9, [.ref b0, .int 2])), (b0, .inl (cy 1, 80, .inl g_13))] H := hP
  have hD : va_D A [(h0, .inr (9, [.ref b0, .int 2])), (b0, .inl (cy 1, 80, .inl g_13))] := hD
  refine lv_iinc (v := 2) (lv' := [(3, .int 2), (0, .ref h0), (1, .int 4), (2, .int p0)]) hx hb dX9_append_42 hl (k := 0) rfl (by decide) (by decide) rfl (fun ls hl => ?_)
  refine lv_goto (tgt := 2) hx hb dX9_append_45 (by decide) ?_
  refine lv_iload_n hx hb dX9_append_2 rfl (lv_at hl 0 rfl) ?_
  refine lv_iload_n hx hb dX9_append_3 rfl (lv_at hl 2 rfl) ?_
  refine lv_icmp_ge (tgt := 48) hx hb dX9_append_4 (by decide) (fun c_15 => absurd c_15 (by decide)) (fun _ => ?_)
  change W _ _ _ _ _ _ _ _ _ _ _ _ _ _ _ (F0 m 7 ls [])
  refine lv_aload_n hx hb dX9_append_7 rfl (lv_at hl 1 rfl) ?_
  refine va_get (D := (dC, dI)) (ci := 9) (v := .int 2) (C := RX9) (T := TX9) (N := 2) hx hb hts (fun _ h9 => List.mem_cons_of_mem _ (List.mem_append_right _ h9)) hown hK hP 0 rfl rfl 1 (by decide) (hts (.fieldLink RX9 15 "SeatsRound$Tape" "length" "I") (List.mem_of_getElem? (i := 1) rfl)) (fun _ h9 => h9) rfl dX9_append_8 ?_
  refine lv_bipush (v := 80) hx hb dX9_append_11 (by decide) ?_
  refine lv_icmp_ge (tgt := 48) hx hb dX9_append_13 (by decide) (fun c_16 => absurd c_16 (by decide)) (fun _ => ?_)
  refine lv_aload_n hx hb dX9_append_16 rfl (lv_at hl 1 rfl) ?_
  refine va_get (D := (dC, dI)) (ci := 9) (v := .ref b0) (C := RX9) (T := TX9) (N := 2) hx hb hts (fun _ h9 => List.mem_cons_of_mem _ (List.mem_append_right _ h9)) hown hK hP 0 rfl rfl 0 (by decide) (hts (.fieldLink RX9 9 "SeatsRound$Tape" "bytes" "[B") (List.mem_of_getElem? (i := 2) rfl)) (fun _ h9 => h9) rfl dX9_append_17 ?_
  refine lv_aload_n hx hb dX9_append_20 rfl (lv_at hl 1 rfl) ?_
  refine va_get (D := (dC, dI)) (ci := 9) (v := .int 2) (C := RX9) (T := TX9) (N := 2) hx hb hts (fun _ h9 => List.mem_cons_of_mem _ (List.mem_append_right _ h9)) hown hK hP 0 rfl rfl 1 (by decide) (hts (.fieldLink RX9 15 "SeatsRound$Tape" "length" "I") (List.mem_of_getElem? (i := 1) rfl)) (fun _ h9 => h9) rfl dX9_append_21 ?_
  change W _ _ _ _ _ _ _ _ _ _ _ _ _ _ _ (F0 m 24 ls [.int 2, .ref b0])
  refine lv_iload_n hx hb dX9_append_24 rfl (lv_at hl 3 rfl) ?_
  refine lv_bipush (v := 8) hx hb dX9_append_25 (by decide) ?_
  refine lv_iload_n hx hb dX9_append_27 rfl (lv_at hl 0 rfl) ?_
  refine lv_imul hx hb dX9_append_28 ?_
  refine lv_topi (fun f_17 ef_17 => ?_)
  obtain rfl : f_17 = 16 := ef_17.trans (by decide)
  refine lv_iushr hx hb dX9_append_29 rfl ?_
  refine lv_topi (fun f_18 ef_18 => ?_)
  refine lv_i2b hx hb dX9_append_30 rfl ?_
  refine lv_topi (fun f_19 ef_19 => ?_)
  refine va_bast hx hb hK hP hD hS 1 1 rfl rfl (vp_in_nI (n := 2) (N := 80) (by decide) (by decide)) dX9_append_31 (fun H locs hP hD hS => ?_)
  generalize upd g_13 (Int32.toNatClampNeg 2) (vp_nar .byte f_19) = g_20 at hP hD
  have hP : va_P (dC, dI) vwCl [(h0, .inr (9, [.ref b0, .int 2])), (b0, .inl (cy 1, 80, .inl g_20))] H := hP
  have hD : va_D A [(h0, .inr (9, [.ref b0, .int 2])), (b0, .inl (cy 1, 80, .inl g_20))] := hD
  refine lv_aload_n hx hb dX9_append_32 rfl (lv_at hl 1 rfl) ?_
  change W _ _ _ _ _ _ _ _ _ _ _ _ _ _ _ (F0 m 33 ls [.ref h0])
  refine lv_dup hx hb dX9_append_33 rfl ?_
  refine va_get (D := (dC, dI)) (ci := 9) (v := .int 2) (C := RX9) (T := TX9) (N := 2) hx hb hts (fun _ h9 => List.mem_cons_of_mem _ (List.mem_append_right _ h9)) hown hK hP 0 rfl rfl 1 (by decide) (hts (.fieldLink RX9 15 "SeatsRound$Tape" "length" "I") (List.mem_of_getElem? (i := 1) rfl)) (fun _ h9 => h9) rfl dX9_append_34 ?_
  refine lv_iconst (v := 1) hx hb dX9_append_37 (by decide) ?_
  refine lv_iadd hx hb dX9_append_38 ?_
  refine lv_topi (fun f_21 ef_21 => ?_)
  obtain rfl : f_21 = 3 := ef_21.trans (by decide)
  refine va_put (D := (dC, dI)) (ci := 9) (v := .int 3) (C := RX9) (T := TX9) (N := 2) hx hb hts (fun _ h9 => List.mem_cons_of_mem _ (List.mem_append_right _ h9)) tyX9 tyX9_ok nmX9 hown hK hP hD hS 0 rfl rfl 1 (by decide) (hts (.fieldLink RX9 15 "SeatsRound$Tape" "length" "I") (List.mem_of_getElem? (i := 1) rfl)) (fun _ h9 => h9) rfl (tyX9_ok 1 (by decide)) rfl rfl (Nat.le_of_ble_eq_true rfl) dX9_append_39 (fun H locs hP hD hS => ?_)
  have hP : va_P (dC, dI) vwCl [(h0, .inr (9, [.ref b0, .int 3])), (b0, .inl (cy 1, 80, .inl g_20))] H := hP
  have hD : va_D A [(h0, .inr (9, [.ref b0, .int 3])), (b0, .inl (cy 1, 80, .inl g_20))] := hD
  refine lv_iinc (v := 3) (lv' := [(3, .int 3), (0, .ref h0), (1, .int 4), (2, .int p0)]) hx hb dX9_append_42 hl (k := 0) rfl (by decide) (by decide) rfl (fun ls hl => ?_)
  refine lv_goto (tgt := 2) hx hb dX9_append_45 (by decide) ?_
  refine lv_iload_n hx hb dX9_append_2 rfl (lv_at hl 0 rfl) ?_
  change W _ _ _ _ _ _ _ _ _ _ _ _ _ _ _ (F0 m 3 ls [.int 3])
  refine lv_iload_n hx hb dX9_append_3 rfl (lv_at hl 2 rfl) ?_
  refine lv_icmp_ge (tgt := 48) hx hb dX9_append_4 (by decide) (fun c_22 => absurd c_22 (by decide)) (fun _ => ?_)
  refine lv_aload_n hx hb dX9_append_7 rfl (lv_at hl 1 rfl) ?_
  refine va_get (D := (dC, dI)) (ci := 9) (v := .int 3) (C := RX9) (T := TX9) (N := 2) hx hb hts (fun _ h9 => List.mem_cons_of_mem _ (List.mem_append_right _ h9)) hown hK hP 0 rfl rfl 1 (by decide) (hts (.fieldLink RX9 15 "SeatsRound$Tape" "length" "I") (List.mem_of_getElem? (i := 1) rfl)) (fun _ h9 => h9) rfl dX9_append_8 ?_
  refine lv_bipush (v := 80) hx hb dX9_append_11 (by decide) ?_
  refine lv_icmp_ge (tgt := 48) hx hb dX9_append_13 (by decide) (fun c_23 => absurd c_23 (by decide)) (fun _ => ?_)
  refine lv_aload_n hx hb dX9_append_16 rfl (lv_at hl 1 rfl) ?_
  refine va_get (D := (dC, dI)) (ci := 9) (v := .ref b0) (C := RX9) (T := TX9) (N := 2) hx hb hts (fun _ h9 => List.mem_cons_of_mem _ (List.mem_append_right _ h9)) hown hK hP 0 rfl rfl 0 (by decide) (hts (.fieldLink RX9 9 "SeatsRound$Tape" "bytes" "[B") (List.mem_of_getElem? (i := 2) rfl)) (fun _ h9 => h9) rfl dX9_append_17 ?_
  change W _ _ _ _ _ _ _ _ _ _ _ _ _ _ _ (F0 m 20 ls [.ref b0])
  refine lv_aload_n hx hb dX9_append_20 rfl (lv_at hl 1 rfl) ?_
  refine va_get (D := (dC, dI)) (ci := 9) (v := .int 3) (C := RX9) (T := TX9) (N := 2) hx hb hts (fun _ h9 => List.mem_cons_of_mem _ (List.mem_append_right _ h9)) hown hK hP 0 rfl rfl 1 (by decide) (hts (.fieldLink RX9 15 "SeatsRound$Tape" "length" "I") (List.mem_of_getElem? (i := 1) rfl)) (fun _ h9 => h9) rfl dX9_append_21 ?_
  refine lv_iload_n hx hb dX9_append_24 rfl (lv_at hl 3 rfl) ?_
  refine lv_bipush (v := 8) hx hb dX9_append_25 (by decide) ?_
  refine lv_iload_n hx hb dX9_append_27 rfl (lv_at hl 0 rfl) ?_
  refine lv_imul hx hb dX9_append_28 ?_
  refine lv_topi (fun f_24 ef_24 => ?_)
  obtain rfl : f_24 = 24 := ef_24.trans (by decide)
  refine lv_iushr hx hb dX9_append_29 rfl ?_
  refine lv_topi (fun f_25 ef_25 => ?_)
  refine lv_i2b hx hb dX9_append_30 rfl ?_
  refine lv_topi (fun f_26 ef_26 => ?_)
  change W _ _ _ _ _ _ _ _ _ _ _ _ _ _ _ (F0 m 31 ls [.int f_26, .int 3, .ref b0])
  refine va_bast hx hb hK hP hD hS 1 1 rfl rfl (vp_in_nI (n := 3) (N := 80) (by decide) (by decide)) dX9_append_31 (fun H locs hP hD hS => ?_)
  generalize upd g_20 (Int32.toNatClampNeg 3) (vp_nar .byte f_26) = g_27 at hP hD
  have hP : va_P (dC, dI) vwCl [(h0, .inr (9, [.ref b0, .int 3])), (b0, .inl (cy 1, 80, .inl g_27))] H := hP
  have hD : va_D A [(h0, .inr (9, [.ref b0, .int 3])), (b0, .inl (cy 1, 80, .inl g_27))] := hD
  refine lv_aload_n hx hb dX9_append_32 rfl (lv_at hl 1 rfl) ?_
  refine lv_dup hx hb dX9_append_33 rfl ?_
  refine va_get (D := (dC, dI)) (ci := 9) (v := .int 3) (C := RX9) (T := TX9) (N := 2) hx hb hts (fun _ h9 => List.mem_cons_of_mem _ (List.mem_append_right _ h9)) hown hK hP 0 rfl rfl 1 (by decide) (hts (.fieldLink RX9 15 "SeatsRound$Tape" "length" "I") (List.mem_of_getElem? (i := 1) rfl)) (fun _ h9 => h9) rfl dX9_append_34 ?_
  refine lv_iconst (v := 1) hx hb dX9_append_37 (by decide) ?_
  refine lv_iadd hx hb dX9_append_38 ?_
  refine lv_topi (fun f_28 ef_28 => ?_)
  obtain rfl : f_28 = 4 := ef_28.trans (by decide)
  refine va_put (D := (dC, dI)) (ci := 9) (v := .int 4) (C := RX9) (T := TX9) (N := 2) hx hb hts (fun _ h9 => List.mem_cons_of_mem _ (List.mem_append_right _ h9)) tyX9 tyX9_ok nmX9 hown hK hP hD hS 0 rfl rfl 1 (by decide) (hts (.fieldLink RX9 15 "SeatsRound$Tape" "length" "I") (List.mem_of_getElem? (i := 1) rfl)) (fun _ h9 => h9) rfl (tyX9_ok 1 (by decide)) rfl rfl (Nat.le_of_ble_eq_true rfl) dX9_append_39 (fun H locs hP hD hS => ?_)
  have hP : va_P (dC, dI) vwCl [(h0, .inr (9, [.ref b0, .int 4])), (b0, .inl (cy 1, 80, .inl g_27))] H := hP
  have hD : va_D A [(h0, .inr (9, [.ref b0, .int 4])), (b0, .inl (cy 1, 80, .inl g_27))] := hD
  refine lv_iinc (v := 4) (lv' := [(3, .int 4), (0, .ref h0), (1, .int 4), (2, .int p0)]) hx hb dX9_append_42 hl (k := 0) rfl (by decide) (by decide) rfl (fun ls hl => ?_)
  change W _ _ _ _ _ _ _ _ _ _ _ _ _ _ _ (F0 m 45 ls [])
  refine lv_goto (tgt := 2) hx hb dX9_append_45 (by decide) ?_
  refine lv_iload_n hx hb dX9_append_2 rfl (lv_at hl 0 rfl) ?_
  refine lv_iload_n hx hb dX9_append_3 rfl (lv_at hl 2 rfl) ?_
  refine lv_icmp_ge (tgt := 48) hx hb dX9_append_4 (by decide) (fun _ => ?_) (fun c_29 => absurd c_29 (by decide))
  have hP9 := hP.sub (ws' := [(h0, .inr (9, [.ref b0, .int 4])), (b0, .inl (cy 1, 80, .inl g_27))]) [0, 1] rfl
  have hD9 := hD.sub (ws' := [(h0, .inr (9, [.ref b0, .int 4])), (b0, .inl (cy 1, 80, .inl g_27))]) [0, 1] (by decide) rfl
  exact W.vret hx hb hr (fun t ht hW => ⟨⟨g_27, rfl, trivial, ⟨by rw [ht]; exact hP9, hD9⟩⟩, hS.F ht⟩) hS.2.2 dX9_append_48
set_option maxHeartbeats 4000000 in
set_option maxRecDepth 100000 in
theorem c_KP_add (l : Launch) (dC : Nat → ClassId) (dI : Nat → Nat → Nat) (cy : Nat → ClassId) (h0 : Nat) (k0 : Nat) (k1 : Nat) (k2 : Nat) (k3 : Nat) (k4 : Nat) (p0 : Int32) (p1 : Int32) (sz : Nat)  : Met l yX2_add wsX2_add ({ frames := 1, cells := 0, slots := 0, locals := 23 }) (va_Pc [.ref h0, .int p0, .int p1] (wPre (dC, dI) cy [(h0, .inr (2, [.ref k0, .ref k1, .ref k2, .ref k3, .ref k4, .int 0])), (k0, .inl (cy 0, 12, .inl (fun _ => 0))), (k1, .inl (cy 0, 12, .inl (fun _ => 0))), (k2, .inl (cy 0, 12, .inl (fun _ => 0))), (k3, .inl (cy 0, 12, .inl (fun _ => 0)))] sz)) (va_Qi (fun (r : Int32) (u : Unit) => r = 0) (fun (u : Unit) t => True) (va_A [(h0, .inr (2, [.ref k0, .ref k1, .ref k2, .ref k3, .ref k4, .int 0])), (k0, .inl (cy 0, 12, .inl (fun _ => 0))), (k1, .inl (cy 0, 12, .inl (fun _ => 0))), (k2, .inl (cy 0, 12, .inl (fun _ => 0))), (k3, .inl (cy 0, 12, .inl (fun _ => 0)))] sz)) 0 0 (va_A [(h0, .inr (2, [.ref k0, .ref k1, .ref k2, .ref k3, .ref k4, .int 0])), (k0, .inl (cy 0, 12, .inl (fun _ => 0))), (k1, .inl (cy 0, 12, .inl (fun _ => 0))), (k2, .inl (cy 0, 12, .inl (fun _ => 0))), (k3, .inl (cy 0, 12, .inl (fun _ => 0)))] sz) := by
  refine Met.ofW (cc := cX2_add) (maxL := 3) (ret := (some .int)) (by decide) rfl ?_
  intro p e s m args below meth c s₁ B hml hv
  obtain ⟨rfl, hsz, hP, hK, hD0, hN⟩ := hv
  have hx := B.exec
  have hb := B.bytes
  have hr := B.returns
  have hts := atoms_spec (ws := wsX2_add) B.pre
  have hown : s.vm.findClass RX2 = some m.cls := findClass_of_methodNamed B.named
  have hlocks := B.notSynchronized
  subst hsz
  have hD := hD0.self (sz := s.heap.size)
  generalize hAe : va_A [(h0, .inr (2, [.ref k0, .ref k1, .ref k2, .ref k3, .ref k4, .int 0])), (k0, .inl (cy 0, 12, .inl (fun _ => 0))), (k1, .inl (cy 0, 12, .inl (fun _ => 0))), (k2, .inl (cy 0, 12, .inl (fun _ => 0))), (k3, .inl (cy 0, 12, .inl (fun _ => 0)))] s.heap.size = A at hD ⊢
  have hA : ∀ q : Nat, s.heap.size ≤ q → A q := fun q h => by rw [← hAe]; exact Or.inr h
  have hS : va_S A s.heap s.heap [] := va_S.rf
  have hl := lv_entry ([.ref h0, .int p0, .int p1]) (n := 3) (Nat.le_of_ble_eq_true rfl)
  rw [lg_entry_eq]
  generalize (lg_sl ([.ref h0, .int p0, .int p1]) ++ List.replicate (3 - (lg_sl ([.ref h0, .int p0, .int p1])).length) Slot.unset).toArray = ls at hl ⊢
  have hl : lv_has ls 3 [(0, .ref h0), (1, .int p0), (2, .int p1)] := hl
  refine lv_aload_n hx hb dX2_add_0 rfl (lv_at hl 0 rfl) ?_
  refine va_get (D := (dC, dI)) (ci := 2) (v := .ref k0) (C := RX2) (T := TX2) (N := 6) hx hb hts (fun _ h9 => List.mem_cons_of_mem _ (List.mem_append_right _ h9)) hown hK hP 0 rfl rfl 0 (by decide) (hts (.fieldLink RX2 9 "SeatsRound$Keepers" "kind" "[I") (List.mem_of_getElem? (i := 1) rfl)) (fun _ h9 => h9) rfl dX2_add_1 ?_
  change W _ _ _ _ _ _ _ _ _ _ _ _ _ _ _ (F0 m 4 ls [.ref k0])
  refine lv_aload_n hx hb dX2_add_4 rfl (lv_at hl 0 rfl) ?_
  refine va_get (D := (dC, dI)) (ci := 2) (v := .int 0) (C := RX2) (T := TX2) (N := 6) hx hb hts (fun _ h9 => List.mem_cons_of_mem _ (List.mem_append_right _ h9)) hown hK hP 0 rfl rfl 5 (by decide) (hts (.fieldLink RX2 28 "SeatsRound$Keepers" "count" "I") (List.mem_of_getElem? (i := 2) rfl)) (fun _ h9 => h9) rfl dX2_add_5 ?_
  refine lv_iconst (v := 0) hx hb dX2_add_8 (by decide) ?_
  refine va_iast hx hb hK hP hD hS 1 0 rfl rfl (vp_in_nI (n := 0) (N := 12) (by decide) (by decide)) dX2_add_9 (fun H locs hP hD hS => ?_)
  generalize upd (fun _ => 0) (Int32.toNatClampNeg 0) 0 = g_1 at hP hD
  have hP : va_P (dC, dI) vwCl [(h0, .inr (2, [.ref k0, .ref k1, .ref k2, .ref k3, .ref k4, .int 0])), (k0, .inl (cy 0, 12, .inl g_1)), (k1, .inl (cy 0, 12, .inl (fun _ => 0))), (k2, .inl (cy 0, 12, .inl (fun _ => 0))), (k3, .inl (cy 0, 12, .inl (fun _ => 0)))] H := hP
  have hD : va_D A [(h0, .inr (2, [.ref k0, .ref k1, .ref k2, .ref k3, .ref k4, .int 0])), (k0, .inl (cy 0, 12, .inl g_1)), (k1, .inl (cy 0, 12, .inl (fun _ => 0))), (k2, .inl (cy 0, 12, .inl (fun _ => 0))), (k3, .inl (cy 0, 12, .inl (fun _ => 0)))] := hD
  refine lv_aload_n hx hb dX2_add_10 rfl (lv_at hl 0 rfl) ?_
  refine va_get (D := (dC, dI)) (ci := 2) (v := .ref k1) (C := RX2) (T := TX2) (N := 6) hx hb hts (fun _ h9 => List.mem_cons_of_mem _ (List.mem_append_right _ h9)) hown hK hP 0 rfl rfl 1 (by decide) (hts (.fieldLink RX2 15 "SeatsRound$Keepers" "street" "[I") (List.mem_of_getElem? (i := 3) rfl)) (fun _ h9 => h9) rfl dX2_add_11 ?_
  refine lv_aload_n hx hb dX2_add_14 rfl (lv_at hl 0 rfl) ?_
  refine va_get (D := (dC, dI)) (ci := 2) (v := .int 0) (C := RX2) (T := TX2) (N := 6) hx hb hts (fun _ h9 => List.mem_cons_of_mem _ (List.mem_append_right _ h9)) hown hK hP 0 rfl rfl 5 (by decide) (hts (.fieldLink RX2 28 "SeatsRound$Keepers" "count" "I") (List.mem_of_getElem? (i := 2) rfl)) (fun _ h9 => h9) rfl dX2_add_15 ?_
  change W _ _ _ _ _ _ _ _ _ _ _ _ _ _ _ (F0 m 18 ls [.int 0, .ref k1])
  refine lv_iload_n hx hb dX2_add_18 rfl (lv_at hl 1 rfl) ?_
  refine va_iast hx hb hK hP hD hS 2 0 rfl rfl (vp_in_nI (n := 0) (N := 12) (by decide) (by decide)) dX2_add_19 (fun H locs hP hD hS => ?_)
  generalize upd (fun _ => 0) (Int32.toNatClampNeg 0) p0 = g_2 at hP hD
  have hP : va_P (dC, dI) vwCl [(h0, .inr (2, [.ref k0, .ref k1, .ref k2, .ref k3, .ref k4, .int 0])), (k0, .inl (cy 0, 12, .inl g_1)), (k1, .inl (cy 0, 12, .inl g_2)), (k2, .inl (cy 0, 12, .inl (fun _ => 0))), (k3, .inl (cy 0, 12, .inl (fun _ => 0)))] H := hP
  have hD : va_D A [(h0, .inr (2, [.ref k0, .ref k1, .ref k2, .ref k3, .ref k4, .int 0])), (k0, .inl (cy 0, 12, .inl g_1)), (k1, .inl (cy 0, 12, .inl g_2)), (k2, .inl (cy 0, 12, .inl (fun _ => 0))), (k3, .inl (cy 0, 12, .inl (fun _ => 0)))] := hD
  refine lv_aload_n hx hb dX2_add_20 rfl (lv_at hl 0 rfl) ?_
  refine va_get (D := (dC, dI)) (ci := 2) (v := .ref k2) (C := RX2) (T := TX2) (N := 6) hx hb hts (fun _ h9 => List.mem_cons_of_mem _ (List.mem_append_right _ h9)) hown hK hP 0 rfl rfl 2 (by decide) (hts (.fieldLink RX2 18 "SeatsRound$Keepers" "strength" "[I") (List.mem_of_getElem? (i := 4) rfl)) (fun _ h9 => h9) rfl dX2_add_21 ?_
  refine lv_aload_n hx hb dX2_add_24 rfl (lv_at hl 0 rfl) ?_
  refine va_get (D := (dC, dI)) (ci := 2) (v := .int 0) (C := RX2) (T := TX2) (N := 6) hx hb hts (fun _ h9 => List.mem_cons_of_mem _ (List.mem_append_right _ h9)) hown hK hP 0 rfl rfl 5 (by decide) (hts (.fieldLink RX2 28 "SeatsRound$Keepers" "count" "I") (List.mem_of_getElem? (i := 2) rfl)) (fun _ h9 => h9) rfl dX2_add_25 ?_
  refine lv_iload_n hx hb dX2_add_28 rfl (lv_at hl 2 rfl) ?_
  refine va_iast hx hb hK hP hD hS 3 0 rfl rfl (vp_in_nI (n := 0) (N := 12) (by decide) (by decide)) dX2_add_29 (fun H locs hP hD hS => ?_)
  generalize upd (fun _ => 0) (Int32.toNatClampNeg 0) p1 = g_3 at hP hD
  have hP : va_P (dC, dI) vwCl [(h0, .inr (2, [.ref k0, .ref k1, .ref k2, .ref k3, .ref k4, .int 0])), (k0, .inl (cy 0, 12, .inl g_1)), (k1, .inl (cy 0, 12, .inl g_2)), (k2, .inl (cy 0, 12, .inl g_3)), (k3, .inl (cy 0, 12, .inl (fun _ => 0)))] H := hP
  have hD : va_D A [(h0, .inr (2, [.ref k0, .ref k1, .ref k2, .ref k3, .ref k4, .int 0])), (k0, .inl (cy 0, 12, .inl g_1)), (k1, .inl (cy 0, 12, .inl g_2)), (k2, .inl (cy 0, 12, .inl g_3)), (k3, .inl (cy 0, 12, .inl (fun _ => 0)))] := hD
  change W _ _ _ _ _ _ _ _ _ _ _ _ _ _ _ (F0 m 30 ls [])
  refine lv_aload_n hx hb dX2_add_30 rfl (lv_at hl 0 rfl) ?_
  refine va_get (D := (dC, dI)) (ci := 2) (v := .ref k3) (C := RX2) (T := TX2) (N := 6) hx hb hts (fun _ h9 => List.mem_cons_of_mem _ (List.mem_append_right _ h9)) hown hK hP 0 rfl rfl 3 (by decide) (hts (.fieldLink RX2 21 "SeatsRound$Keepers" "table" "[I") (List.mem_of_getElem? (i := 5) rfl)) (fun _ h9 => h9) rfl dX2_add_31 ?_
  refine lv_aload_n hx hb dX2_add_34 rfl (lv_at hl 0 rfl) ?_
  refine va_get (D := (dC, dI)) (ci := 2) (v := .int 0) (C := RX2) (T := TX2) (N := 6) hx hb hts (fun _ h9 => List.mem_cons_of_mem _ (List.mem_append_right _ h9)) hown hK hP 0 rfl rfl 5 (by decide) (hts (.fieldLink RX2 28 "SeatsRound$Keepers" "count" "I") (List.mem_of_getElem? (i := 2) rfl)) (fun _ h9 => h9) rfl dX2_add_35 ?_
  refine lv_iconst (v := (-1)) hx hb dX2_add_38 (by decide) ?_
  refine va_iast hx hb hK hP hD hS 4 0 rfl rfl (vp_in_nI (n := 0) (N := 12) (by decide) (by decide)) dX2_add_39 (fun H locs hP hD hS => ?_)
  generalize upd (fun _ => 0) (Int32.toNatClampNeg 0) (-1) = g_4 at hP hD
  have hP : va_P (dC, dI) vwCl [(h0, .inr (2, [.ref k0, .ref k1, .ref k2, .ref k3, .ref k4, .int 0])), (k0, .inl (cy 0, 12, .inl g_1)), (k1, .inl (cy 0, 12, .inl g_2)), (k2, .inl (cy 0, 12, .inl g_3)), (k3, .inl (cy 0, 12, .inl g_4))] H := hP
  have hD : va_D A [(h0, .inr (2, [.ref k0, .ref k1, .ref k2, .ref k3, .ref k4, .int 0])), (k0, .inl (cy 0, 12, .inl g_1)), (k1, .inl (cy 0, 12, .inl g_2)), (k2, .inl (cy 0, 12, .inl g_3)), (k3, .inl (cy 0, 12, .inl g_4))] := hD
  refine lv_aload_n hx hb dX2_add_40 rfl (lv_at hl 0 rfl) ?_
  refine lv_dup hx hb dX2_add_41 rfl ?_
  change W _ _ _ _ _ _ _ _ _ _ _ _ _ _ _ (F0 m 42 ls [.ref h0, .ref h0])
  refine va_get (D := (dC, dI)) (ci := 2) (v := .int 0) (C := RX2) (T := TX2) (N := 6) hx hb hts (fun _ h9 => List.mem_cons_of_mem _ (List.mem_append_right _ h9)) hown hK hP 0 rfl rfl 5 (by decide) (hts (.fieldLink RX2 28 "SeatsRound$Keepers" "count" "I") (List.mem_of_getElem? (i := 2) rfl)) (fun _ h9 => h9) rfl dX2_add_42 ?_
  refine lv_iconst (v := 1) hx hb dX2_add_45 (by decide) ?_
  refine lv_iadd hx hb dX2_add_46 ?_
  refine lv_topi (fun f_5 ef_5 => ?_)
  obtain rfl : f_5 = 1 := ef_5.trans (by decide)
  refine va_put (D := (dC, dI)) (ci := 2) (v := .int 1) (C := RX2) (T := TX2) (N := 6) hx hb hts (fun _ h9 => List.mem_cons_of_mem _ (List.mem_append_right _ h9)) tyX2 tyX2_ok nmX2 hown hK hP hD hS 0 rfl rfl 5 (by decide) (hts (.fieldLink RX2 28 "SeatsRound$Keepers" "count" "I") (List.mem_of_getElem? (i := 2) rfl)) (fun _ h9 => h9) rfl (tyX2_ok 5 (by decide)) rfl rfl (Nat.le_of_ble_eq_true rfl) dX2_add_47 (fun H locs hP hD hS => ?_)
  have hP : va_P (dC, dI) vwCl [(h0, .inr (2, [.ref k0, .ref k1, .ref k2, .ref k3, .ref k4, .int 1])), (k0, .inl (cy 0, 12, .inl g_1)), (k1, .inl (cy 0, 12, .inl g_2)), (k2, .inl (cy 0, 12, .inl g_3)), (k3, .inl (cy 0, 12, .inl g_4))] H := hP
  have hD : va_D A [(h0, .inr (2, [.ref k0, .ref k1, .ref k2, .ref k3, .ref k4, .int 1])), (k0, .inl (cy 0, 12, .inl g_1)), (k1, .inl (cy 0, 12, .inl g_2)), (k2, .inl (cy 0, 12, .inl g_3)), (k3, .inl (cy 0, 12, .inl g_4))] := hD
  refine lv_aload_n hx hb dX2_add_50 rfl (lv_at hl 0 rfl) ?_
  refine va_get (D := (dC, dI)) (ci := 2) (v := .int 1) (C := RX2) (T := TX2) (N := 6) hx hb hts (fun _ h9 => List.mem_cons_of_mem _ (List.mem_append_right _ h9)) hown hK hP 0 rfl rfl 5 (by decide) (hts (.fieldLink RX2 28 "SeatsRound$Keepers" "count" "I") (List.mem_of_getElem? (i := 2) rfl)) (fun _ h9 => h9) rfl dX2_add_51 ?_
  refine lv_iconst (v := 1) hx hb dX2_add_54 (by decide) ?_
  refine lv_isub hx hb dX2_add_55 ?_
  refine lv_topi (fun f_6 ef_6 => ?_)
  obtain rfl : f_6 = 0 := ef_6.trans (by decide)
  change W _ _ _ _ _ _ _ _ _ _ _ _ _ _ _ (F0 m 56 ls [.int 0])
  exact W.iret (v := 0) hx hb hr (fun t ht hW => ⟨⟨0, (), rfl, (by first | rfl | (exfalso; omega)), trivial⟩, hS.F ht⟩) hS.2.2 dX2_add_56
set_option maxHeartbeats 4000000 in
set_option maxRecDepth 100000 in
theorem c_RW_isEmpty (l : Launch) (dC : Nat → ClassId) (dI : Nat → Nat → Nat) (cy : Nat → ClassId) (h0 : Nat) (r0 : Nat) (r1 : Nat) (r2 : Nat) (r3 : Nat) (p0 : Int32) (sz : Nat) (hin : (0 : Int) ≤ p0.toInt ∧ p0.toInt ≤ 5) : Met l yX7_isEmpty wsX7_isEmpty ({ frames := 1, cells := 0, slots := 0, locals := 23 }) (va_Pc [.ref h0, .int p0] (wPre (dC, dI) cy [(h0, .inr (7, [.ref r0, .ref r1, .ref r2, .ref r3])), (r0, .inl (cy 0, 6, .inl (fun _ => (-1)))), (r1, .inl (cy 0, 6, .inl (fun _ => (-1))))] sz)) (vp_Si (fun r => r = 1)) 0 0 (fun _ => False) := by
  refine Met.ofW (cc := cX7_isEmpty) (maxL := 2) (ret := (some .boolean)) (by decide) rfl ?_
  intro p e s m args below meth c s₁ B hml hv
  obtain ⟨rfl, hsz, hP, hK, hD0, hN⟩ := hv
  have hx := B.exec
  have hb := B.bytes
  have hr := B.returns
  have hts := atoms_spec (ws := wsX7_isEmpty) B.pre
  have hown : s.vm.findClass RX7 = some m.cls := findClass_of_methodNamed B.named
  have hlocks := B.notSynchronized
  subst hsz
  have hl := lv_entry ([.ref h0, .int p0]) (n := 2) (Nat.le_of_ble_eq_true rfl)
  rw [lg_entry_eq]
  generalize (lg_sl ([.ref h0, .int p0]) ++ List.replicate (2 - (lg_sl ([.ref h0, .int p0])).length) Slot.unset).toArray = ls at hl ⊢
  have hl : lv_has ls 2 [(0, .ref h0), (1, .int p0)] := hl
  refine lv_aload_n hx hb dX7_isEmpty_0 rfl (lv_at hl 0 rfl) ?_
  refine va_get (D := (dC, dI)) (ci := 7) (v := .ref r1) (C := RX7) (T := TX7) (N := 4) hx hb hts (fun _ h9 => List.mem_cons_of_mem _ (List.mem_append_right _ h9)) hown hK hP 0 rfl rfl 1 (by decide) (hts (.fieldLink RX7 15 "SeatsRound$Rows" "sort" "[I") (List.mem_of_getElem? (i := 1) rfl)) (fun _ h9 => h9) rfl dX7_isEmpty_1 ?_
  change W _ _ _ _ _ _ _ _ _ _ _ _ _ _ _ (F0 m 4 ls [.ref r1])
  refine lv_iload_n hx hb dX7_isEmpty_4 rfl (lv_at hl 1 rfl) ?_
  refine va_iald hx hb hK hP 2 0 rfl rfl (vp_in_iff.mpr ⟨by omega, by omega⟩) dX7_isEmpty_5 ?_
  refine lv_topi (fun f_1 ef_1 => ?_)
  obtain rfl : f_1 = (-1) := ef_1
  refine lv_iconst (v := (-1)) hx hb dX7_isEmpty_6 (by decide) ?_
  refine lv_icmp_ne (tgt := 24) hx hb dX7_isEmpty_7 (by decide) (fun c_2 => absurd c_2 (by decide)) (fun _ => ?_)
  refine lv_aload_n hx hb dX7_isEmpty_10 rfl (lv_at hl 0 rfl) ?_
  refine va_get (D := (dC, dI)) (ci := 7) (v := .ref r0) (C := RX7) (T := TX7) (N := 4) hx hb hts (fun _ h9 => List.mem_cons_of_mem _ (List.mem_append_right _ h9)) hown hK hP 0 rfl rfl 0 (by decide) (hts (.fieldLink RX7 9 "SeatsRound$Rows" "keeper" "[I") (List.mem_of_getElem? (i := 2) rfl)) (fun _ h9 => h9) rfl dX7_isEmpty_11 ?_
  refine lv_iload_n hx hb dX7_isEmpty_14 rfl (lv_at hl 1 rfl) ?_
  refine va_iald hx hb hK hP 1 0 rfl rfl (vp_in_iff.mpr ⟨by omega, by omega⟩) dX7_isEmpty_15 ?_
  refine lv_topi (fun f_3 ef_3 => ?_)
  obtain rfl : f_3 = (-1) := ef_3
  change W _ _ _ _ _ _ _ _ _ _ _ _ _ _ _ (F0 m 16 ls [.int (-1)])
  refine lv_iconst (v := (-1)) hx hb dX7_isEmpty_16 (by decide) ?_
  refine lv_icmp_ne (tgt := 24) hx hb dX7_isEmpty_17 (by decide) (fun c_4 => absurd c_4 (by decide)) (fun _ => ?_)
  refine lv_iconst (v := 1) hx hb dX7_isEmpty_20 (by decide) ?_
  refine lv_goto (tgt := 25) hx hb dX7_isEmpty_21 (by decide) ?_
  exact W.zret (v := 1) hx hb hr rfl (fun t ht hW => ⟨1, rfl, (by first | rfl | (exfalso; omega)), ht⟩) (fun q h => by cases h) dX7_isEmpty_25
set_option maxHeartbeats 4000000 in
set_option maxRecDepth 100000 in
theorem c_RW_refusalAt (l : Launch) (dC : Nat → ClassId) (dI : Nat → Nat → Nat) (cy : Nat → ClassId) (h0 : Nat) (r0 : Nat) (r1 : Nat) (r2 : Nat) (r3 : Nat) (p0 : Int32) (p1 : Int32) (sz : Nat) (hin : (0 : Int) ≤ p0.toInt ∧ p0.toInt ≤ 5) : Met l yX7_refusalAt wsX7_refusalAt ({ frames := 2, cells := 0, slots := 0, locals := 44 }) (va_Pc [.ref h0, .int p0, .int p1] (wPre (dC, dI) cy [(h0, .inr (7, [.ref r0, .ref r1, .ref r2, .ref r3])), (r0, .inl (cy 0, 6, .inl (fun _ => (-1)))), (r1, .inl (cy 0, 6, .inl (fun _ => (-1))))] sz)) (vp_Si (fun r => r = -11)) 0 0 (fun _ => False) := by
  refine Met.ofW (cc := cX7_refusalAt) (maxL := 3) (ret := (some .int)) (by decide) rfl ?_
  intro p e s m args below meth c s₁ B hml hv
  obtain ⟨rfl, hsz, hP, hK, hD0, hN⟩ := hv
  have hx := B.exec
  have hb := B.bytes
  have hr := B.returns
  have hts := atoms_spec (ws := wsX7_refusalAt) B.pre
  have hown : s.vm.findClass RX7 = some m.cls := findClass_of_methodNamed B.named
  have hlocks := B.notSynchronized
  subst hsz
  have hl := lv_entry ([.ref h0, .int p0, .int p1]) (n := 3) (Nat.le_of_ble_eq_true rfl)
  rw [lg_entry_eq]
  generalize (lg_sl ([.ref h0, .int p0, .int p1]) ++ List.replicate (3 - (lg_sl ([.ref h0, .int p0, .int p1])).length) Slot.unset).toArray = ls at hl ⊢
  have hl : lv_has ls 3 [(0, .ref h0), (1, .int p0), (2, .int p1)] := hl
  refine lv_aload_n hx hb dX7_refusalAt_0 rfl (lv_at hl 0 rfl) ?_
  refine lv_iload_n hx hb dX7_refusalAt_1 rfl (lv_at hl 1 rfl) ?_
  have hPc := hP.sub (ws' := [(h0, .inr (7, [.ref r0, .ref r1, .ref r2, .ref r3])), (r0, .inl (cy 0, 6, .inl (fun _ => (-1)))), (r1, .inl (cy 0, 6, .inl (fun _ => (-1))))]) [0, 1, 2] rfl
  have hDc := hD0.sub (ws' := [(h0, .inr (7, [.ref r0, .ref r1, .ref r2, .ref r3])), (r0, .inl (cy 0, 6, .inl (fun _ => (-1)))), (r1, .inl (cy 0, 6, .inl (fun _ => (-1))))]) [0, 1, 2] (by decide) rfl
  refine vz_callSi (va_runV (As := [.int p0]) (rest := []) ⟨hx, hb, hml, hown, hts⟩ (c_RW_isEmpty l dC dI cy h0 r0 r1 r2 r3 p0 s.heap.size (by omega)) (cwV 1 hts gX7_refusalAt_X7_isEmpty rfl rfl rfl (by decide +kernel) ⟨Nat.le_of_ble_eq_true rfl, Nat.le_of_ble_eq_true rfl⟩) (wp_V hK hN hPc hDc (va_recv hK hPc (ci := 7) (q0 := 0) rfl rfl)) rfl rfl hl.1 rfl (lv_room (Nat.le_of_ble_eq_true rfl)) dX7_refusalAt_2 ⟨Nat.le_of_ble_eq_true rfl, Nat.le_of_ble_eq_true rfl⟩) (fun r_1 hw_1 => ?_)
  obtain rfl : r_1 = 1 := hw_1
  refine lv_if_eq (tgt := 11) hx hb dX7_refusalAt_5 (by decide) (fun c_2 => absurd c_2 (by decide)) (fun _ => ?_)
  refine lv_bipush (v := (-11)) hx hb dX7_refusalAt_8 (by decide) ?_
  exact W.iret (v := (-11)) hx hb hr (fun t ht hW => ⟨(-11), rfl, (by first | rfl | (exfalso; omega)), ht⟩) (fun q h => by cases h) dX7_refusalAt_10
set_option maxHeartbeats 4000000 in
set_option maxRecDepth 100000 in
theorem c_RW_holdKeeper (l : Launch) (dC : Nat → ClassId) (dI : Nat → Nat → Nat) (cy : Nat → ClassId) (h0 : Nat) (r0 : Nat) (r1 : Nat) (r2 : Nat) (r3 : Nat) (p0 : Int32) (p1 : Int32) (sz : Nat) (hin : (0 : Int) ≤ p0.toInt ∧ p0.toInt ≤ 5) : Met l yX7_holdKeeper wsX7_holdKeeper ({ frames := 1, cells := 0, slots := 0, locals := 23 }) (va_Pc [.ref h0, .int p0, .int p1] (wPre (dC, dI) cy [(h0, .inr (7, [.ref r0, .ref r1, .ref r2, .ref r3])), (r0, .inl (cy 0, 6, .inl (fun _ => (-1)))), (r1, .inl (cy 0, 6, .inl (fun _ => (-1)))), (r2, .inl (cy 0, 6, .inl (fun _ => 0)))] sz)) (va_Qv (fun (u : Unit) => True) (fun (u : Unit) t => True) (va_A [(h0, .inr (7, [.ref r0, .ref r1, .ref r2, .ref r3])), (r0, .inl (cy 0, 6, .inl (fun _ => (-1)))), (r1, .inl (cy 0, 6, .inl (fun _ => (-1)))), (r2, .inl (cy 0, 6, .inl (fun _ => 0)))] sz)) 0 0 (va_A [(h0, .inr (7, [.ref r0, .ref r1, .ref r2, .ref r3])), (r0, .inl (cy 0, 6, .inl (fun _ => (-1)))), (r1, .inl (cy 0, 6, .inl (fun _ => (-1)))), (r2, .inl (cy 0, 6, .inl (fun _ => 0)))] sz) := by
  refine Met.ofW (cc := cX7_holdKeeper) (maxL := 3) (ret := none) (by decide) rfl ?_
  intro p e s m args below meth c s₁ B hml hv
  obtain ⟨rfl, hsz, hP, hK, hD0, hN⟩ := hv
  have hx := B.exec
  have hb := B.bytes
  have hr := B.returns
  have hts := atoms_spec (ws := wsX7_holdKeeper) B.pre
  have hown : s.vm.findClass RX7 = some m.cls := findClass_of_methodNamed B.named
  have hlocks := B.notSynchronized
  subst hsz
  have hD := hD0.self (sz := s.heap.size)
  generalize hAe : va_A [(h0, .inr (7, [.ref r0, .ref r1, .ref r2, .ref r3])), (r0, .inl (cy 0, 6, .inl (fun _ => (-1)))), (r1, .inl (cy 0, 6, .inl (fun _ => (-1)))), (r2, .inl (cy 0, 6, .inl (fun _ => 0)))] s.heap.size = A at hD ⊢
  have hA : ∀ q : Nat, s.heap.size ≤ q → A q := fun q h => by rw [← hAe]; exact Or.inr h
  have hS : va_S A s.heap s.heap [] := va_S.rf
  have hl := lv_entry ([.ref h0, .int p0, .int p1]) (n := 3) (Nat.le_of_ble_eq_true rfl)
  rw [lg_entry_eq]
  generalize (lg_sl ([.ref h0, .int p0, .int p1]) ++ List.replicate (3 - (lg_sl ([.ref h0, .int p0, .int p1])).length) Slot.unset).toArray = ls at hl ⊢
  have hl : lv_has ls 3 [(0, .ref h0), (1, .int p0), (2, .int p1)] := hl
  refine lv_aload_n hx hb dX7_holdKeeper_0 rfl (lv_at hl 0 rfl) ?_
  refine va_get (D := (dC, dI)) (ci := 7) (v := .ref r0) (C := RX7) (T := TX7) (N := 4) hx hb hts (fun _ h9 => List.mem_cons_of_mem _ (List.mem_append_right _ h9)) hown hK hP 0 rfl rfl 0 (by decide) (hts (.fieldLink RX7 9 "SeatsRound$Rows" "keeper" "[I") (List.mem_of_getElem? (i := 1) rfl)) (fun _ h9 => h9) rfl dX7_holdKeeper_1 ?_
  refine lv_iload_n hx hb dX7_holdKeeper_4 rfl (lv_at hl 1 rfl) ?_
  change W _ _ _ _ _ _ _ _ _ _ _ _ _ _ _ (F0 m 5 ls [.int p0, .ref r0])
  refine lv_iload_n hx hb dX7_holdKeeper_5 rfl (lv_at hl 2 rfl) ?_
  refine va_iast hx hb hK hP hD hS 1 0 rfl rfl (vp_in_iff.mpr ⟨by omega, by omega⟩) dX7_holdKeeper_6 (fun H locs hP hD hS => ?_)
  generalize upd (fun _ => (-1)) (Int32.toNatClampNeg p0) p1 = g_1 at hP hD
  have hP : va_P (dC, dI) vwCl [(h0, .inr (7, [.ref r0, .ref r1, .ref r2, .ref r3])), (r0, .inl (cy 0, 6, .inl g_1)), (r1, .inl (cy 0, 6, .inl (fun _ => (-1)))), (r2, .inl (cy 0, 6, .inl (fun _ => 0)))] H := hP
  have hD : va_D A [(h0, .inr (7, [.ref r0, .ref r1, .ref r2, .ref r3])), (r0, .inl (cy 0, 6, .inl g_1)), (r1, .inl (cy 0, 6, .inl (fun _ => (-1)))), (r2, .inl (cy 0, 6, .inl (fun _ => 0)))] := hD
  refine lv_aload_n hx hb dX7_holdKeeper_7 rfl (lv_at hl 0 rfl) ?_
  refine va_get (D := (dC, dI)) (ci := 7) (v := .ref r1) (C := RX7) (T := TX7) (N := 4) hx hb hts (fun _ h9 => List.mem_cons_of_mem _ (List.mem_append_right _ h9)) hown hK hP 0 rfl rfl 1 (by decide) (hts (.fieldLink RX7 15 "SeatsRound$Rows" "sort" "[I") (List.mem_of_getElem? (i := 2) rfl)) (fun _ h9 => h9) rfl dX7_holdKeeper_8 ?_
  refine lv_iload_n hx hb dX7_holdKeeper_11 rfl (lv_at hl 1 rfl) ?_
  refine lv_iconst (v := (-1)) hx hb dX7_holdKeeper_12 (by decide) ?_
  refine va_iast hx hb hK hP hD hS 2 0 rfl rfl (vp_in_iff.mpr ⟨by omega, by omega⟩) dX7_holdKeeper_13 (fun H locs hP hD hS => ?_)
  generalize upd (fun _ => (-1)) (Int32.toNatClampNeg p0) (-1) = g_2 at hP hD
  have hP : va_P (dC, dI) vwCl [(h0, .inr (7, [.ref r0, .ref r1, .ref r2, .ref r3])), (r0, .inl (cy 0, 6, .inl g_1)), (r1, .inl (cy 0, 6, .inl g_2)), (r2, .inl (cy 0, 6, .inl (fun _ => 0)))] H := hP
  have hD : va_D A [(h0, .inr (7, [.ref r0, .ref r1, .ref r2, .ref r3])), (r0, .inl (cy 0, 6, .inl g_1)), (r1, .inl (cy 0, 6, .inl g_2)), (r2, .inl (cy 0, 6, .inl (fun _ => 0)))] := hD
  refine lv_aload_n hx hb dX7_holdKeeper_14 rfl (lv_at hl 0 rfl) ?_
  change W _ _ _ _ _ _ _ _ _ _ _ _ _ _ _ (F0 m 15 ls [.ref h0])
  refine va_get (D := (dC, dI)) (ci := 7) (v := .ref r2) (C := RX7) (T := TX7) (N := 4) hx hb hts (fun _ h9 => List.mem_cons_of_mem _ (List.mem_append_right _ h9)) hown hK hP 0 rfl rfl 2 (by decide) (hts (.fieldLink RX7 18 "SeatsRound$Rows" "length" "[I") (List.mem_of_getElem? (i := 3) rfl)) (fun _ h9 => h9) rfl dX7_holdKeeper_15 ?_
  refine lv_iload_n hx hb dX7_holdKeeper_18 rfl (lv_at hl 1 rfl) ?_
  refine lv_iconst (v := 0) hx hb dX7_holdKeeper_19 (by decide) ?_
  refine va_iast hx hb hK hP hD hS 3 0 rfl rfl (vp_in_iff.mpr ⟨by omega, by omega⟩) dX7_holdKeeper_20 (fun H locs hP hD hS => ?_)
  generalize upd (fun _ => 0) (Int32.toNatClampNeg p0) 0 = g_3 at hP hD
  have hP : va_P (dC, dI) vwCl [(h0, .inr (7, [.ref r0, .ref r1, .ref r2, .ref r3])), (r0, .inl (cy 0, 6, .inl g_1)), (r1, .inl (cy 0, 6, .inl g_2)), (r2, .inl (cy 0, 6, .inl g_3))] H := hP
  have hD : va_D A [(h0, .inr (7, [.ref r0, .ref r1, .ref r2, .ref r3])), (r0, .inl (cy 0, 6, .inl g_1)), (r1, .inl (cy 0, 6, .inl g_2)), (r2, .inl (cy 0, 6, .inl g_3))] := hD
  exact W.vret hx hb hr (fun t ht hW => ⟨⟨(), rfl, trivial, trivial⟩, hS.F ht⟩) hS.2.2 dX7_holdKeeper_21
set_option maxHeartbeats 4000000 in
set_option maxRecDepth 100000 in
theorem c_RW_holdRow_0 (l : Launch) (dC : Nat → ClassId) (dI : Nat → Nat → Nat) (cy : Nat → ClassId) (h0 : Nat) (r0 : Nat) (r1 : Nat) (r2 : Nat) (r3 : Nat) (g : Nat → Nat) (p0 : Int32) (p1 : Int32) (sz : Nat)  : Met l yX7_holdRow wsX7_holdRow ({ frames := 2, cells := 0, slots := 0, locals := 47 }) (va_Pc [.ref h0, .int 0, .int p0, .int p1] (wPre (dC, dI) cy [(h0, .inr (7, [.ref r0, .ref r1, .ref r2, .ref r3])), (r0, .inl (cy 0, 6, .inl (fun _ => (-1)))), (r1, .inl (cy 0, 6, .inl (fun _ => (-1)))), (r2, .inl (cy 0, 6, .inl (fun _ => 0))), (r3, .inl (cy 7, 6, .inr (.inr (.inr (.inr (fun i => if i < 6 then some (g i) else none)))))), ((g 0), .inl (cy 4, 60, .inr (.inl (fun _ => 0))))] sz)) (va_Qv (fun (u : Unit) => True) (fun (u : Unit) t => True) (va_A [(h0, .inr (7, [.ref r0, .ref r1, .ref r2, .ref r3])), (r0, .inl (cy 0, 6, .inl (fun _ => (-1)))), (r1, .inl (cy 0, 6, .inl (fun _ => (-1)))), (r2, .inl (cy 0, 6, .inl (fun _ => 0))), (r3, .inl (cy 7, 6, .inr (.inr (.inr (.inr (fun i => if i < 6 then some (g i) else none)))))), ((g 0), .inl (cy 4, 60, .inr (.inl (fun _ => 0))))] sz)) 0 0 (va_A [(h0, .inr (7, [.ref r0, .ref r1, .ref r2, .ref r3])), (r0, .inl (cy 0, 6, .inl (fun _ => (-1)))), (r1, .inl (cy 0, 6, .inl (fun _ => (-1)))), (r2, .inl (cy 0, 6, .inl (fun _ => 0))), (r3, .inl (cy 7, 6, .inr (.inr (.inr (.inr (fun i => if i < 6 then some (g i) else none)))))), ((g 0), .inl (cy 4, 60, .inr (.inl (fun _ => 0))))] sz) := by
  refine Met.ofW (cc := cX7_holdRow) (maxL := 4) (ret := none) (by decide) rfl ?_
  intro p e s m args below meth c s₁ B hml hv
  obtain ⟨rfl, hsz, hP, hK, hD0, hN⟩ := hv
  have hx := B.exec
  have hb := B.bytes
  have hr := B.returns
  have hts := atoms_spec (ws := wsX7_holdRow) B.pre
  have hown : s.vm.findClass RX7 = some m.cls := findClass_of_methodNamed B.named
  have hlocks := B.notSynchronized
  subst hsz
  have hD := hD0.self (sz := s.heap.size)
  generalize hAe : va_A [(h0, .inr (7, [.ref r0, .ref r1, .ref r2, .ref r3])), (r0, .inl (cy 0, 6, .inl (fun _ => (-1)))), (r1, .inl (cy 0, 6, .inl (fun _ => (-1)))), (r2, .inl (cy 0, 6, .inl (fun _ => 0))), (r3, .inl (cy 7, 6, .inr (.inr (.inr (.inr (fun i => if i < 6 then some (g i) else none)))))), ((g 0), .inl (cy 4, 60, .inr (.inl (fun _ => 0))))] s.heap.size = A at hD ⊢
  have hA : ∀ q : Nat, s.heap.size ≤ q → A q := fun q h => by rw [← hAe]; exact Or.inr h
  have hS : va_S A s.heap s.heap [] := va_S.rf
  have hl := lv_entry ([.ref h0, .int 0, .int p0, .int p1]) (n := 4) (Nat.le_of_ble_eq_true rfl)
  rw [lg_entry_eq]
  generalize (lg_sl ([.ref h0, .int 0, .int p0, .int p1]) ++ List.replicate (4 - (lg_sl ([.ref h0, .int 0, .int p0, .int p1])).length) Slot.unset).toArray = ls at hl ⊢
  have hl : lv_has ls 4 [(0, .ref h0), (1, .int 0), (2, .int p0), (3, .int p1)] := hl
  refine lv_aload_n hx hb dX7_holdRow_0 rfl (lv_at hl 0 rfl) ?_
  refine va_get (D := (dC, dI)) (ci := 7) (v := .ref r0) (C := RX7) (T := TX7) (N := 4) hx hb hts (fun _ h9 => List.mem_cons_of_mem _ (List.mem_append_right _ h9)) hown hK hP 0 rfl rfl 0 (by decide) (hts (.fieldLink RX7 9 "SeatsRound$Rows" "keeper" "[I") (List.mem_of_getElem? (i := 1) rfl)) (fun _ h9 => h9) rfl dX7_holdRow_1 ?_
  refine lv_iload_n hx hb dX7_holdRow_4 rfl (lv_at hl 1 rfl) ?_
  refine lv_iconst (v := (-1)) hx hb dX7_holdRow_5 (by decide) ?_
  refine va_iast hx hb hK hP hD hS 1 0 rfl rfl (vp_in_nI (n := 0) (N := 6) (by decide) (by decide)) dX7_holdRow_6 (fun H locs hP hD hS => ?_)
  generalize upd (fun _ => (-1)) (Int32.toNatClampNeg 0) (-1) = g_1 at hP hD
  have hP : va_P (dC, dI) vwCl [(h0, .inr (7, [.ref r0, .ref r1, .ref r2, .ref r3])), (r0, .inl (cy 0, 6, .inl g_1)), (r1, .inl (cy 0, 6, .inl (fun _ => (-1)))), (r2, .inl (cy 0, 6, .inl (fun _ => 0))), (r3, .inl (cy 7, 6, .inr (.inr (.inr (.inr (fun i => if i < 6 then some (g i) else none)))))), ((g 0), .inl (cy 4, 60, .inr (.inl (fun _ => 0))))] H := hP
  have hD : va_D A [(h0, .inr (7, [.ref r0, .ref r1, .ref r2, .ref r3])), (r0, .inl (cy 0, 6, .inl g_1)), (r1, .inl (cy 0, 6, .inl (fun _ => (-1)))), (r2, .inl (cy 0, 6, .inl (fun _ => 0))), (r3, .inl (cy 7, 6, .inr (.inr (.inr (.inr (fun i => if i < 6 then some (g i) else none)))))), ((g 0), .inl (cy 4, 60, .inr (.inl (fun _ => 0))))] := hD
  refine lv_aload_n hx hb dX7_holdRow_7 rfl (lv_at hl 0 rfl) ?_
  refine va_get (D := (dC, dI)) (ci := 7) (v := .ref r1) (C := RX7) (T := TX7) (N := 4) hx hb hts (fun _ h9 => List.mem_cons_of_mem _ (List.mem_append_right _ h9)) hown hK hP 0 rfl rfl 1 (by decide) (hts (.fieldLink RX7 15 "SeatsRound$Rows" "sort" "[I") (List.mem_of_getElem? (i := 2) rfl)) (fun _ h9 => h9) rfl dX7_holdRow_8 ?_
  change W _ _ _ _ _ _ _ _ _ _ _ _ _ _ _ (F0 m 11 ls [.ref r1])
  refine lv_iload_n hx hb dX7_holdRow_11 rfl (lv_at hl 1 rfl) ?_
  refine lv_iload_n hx hb dX7_holdRow_12 rfl (lv_at hl 2 rfl) ?_
  refine va_iast hx hb hK hP hD hS 2 0 rfl rfl (vp_in_nI (n := 0) (N := 6) (by decide) (by decide)) dX7_holdRow_13 (fun H locs hP hD hS => ?_)
  generalize upd (fun _ => (-1)) (Int32.toNatClampNeg 0) p0 = g_2 at hP hD
  have hP : va_P (dC, dI) vwCl [(h0, .inr (7, [.ref r0, .ref r1, .ref r2, .ref r3])), (r0, .inl (cy 0, 6, .inl g_1)), (r1, .inl (cy 0, 6, .inl g_2)), (r2, .inl (cy 0, 6, .inl (fun _ => 0))), (r3, .inl (cy 7, 6, .inr (.inr (.inr (.inr (fun i => if i < 6 then some (g i) else none)))))), ((g 0), .inl (cy 4, 60, .inr (.inl (fun _ => 0))))] H := hP
  have hD : va_D A [(h0, .inr (7, [.ref r0, .ref r1, .ref r2, .ref r3])), (r0, .inl (cy 0, 6, .inl g_1)), (r1, .inl (cy 0, 6, .inl g_2)), (r2, .inl (cy 0, 6, .inl (fun _ => 0))), (r3, .inl (cy 7, 6, .inr (.inr (.inr (.inr (fun i => if i < 6 then some (g i) else none)))))), ((g 0), .inl (cy 4, 60, .inr (.inl (fun _ => 0))))] := hD
  refine lv_aload_n hx hb dX7_holdRow_14 rfl (lv_at hl 0 rfl) ?_
  refine va_get (D := (dC, dI)) (ci := 7) (v := .ref r2) (C := RX7) (T := TX7) (N := 4) hx hb hts (fun _ h9 => List.mem_cons_of_mem _ (List.mem_append_right _ h9)) hown hK hP 0 rfl rfl 2 (by decide) (hts (.fieldLink RX7 18 "SeatsRound$Rows" "length" "[I") (List.mem_of_getElem? (i := 3) rfl)) (fun _ h9 => h9) rfl dX7_holdRow_15 ?_
  refine lv_iload_n hx hb dX7_holdRow_18 rfl (lv_at hl 1 rfl) ?_
  refine lv_iload_n hx hb dX7_holdRow_19 rfl (lv_at hl 3 rfl) ?_
  refine va_iast hx hb hK hP hD hS 3 0 rfl rfl (vp_in_nI (n := 0) (N := 6) (by decide) (by decide)) dX7_holdRow_20 (fun H locs hP hD hS => ?_)
  generalize upd (fun _ => 0) (Int32.toNatClampNeg 0) p1 = g_3 at hP hD
  have hP : va_P (dC, dI) vwCl [(h0, .inr (7, [.ref r0, .ref r1, .ref r2, .ref r3])), (r0, .inl (cy 0, 6, .inl g_1)), (r1, .inl (cy 0, 6, .inl g_2)), (r2, .inl (cy 0, 6, .inl g_3)), (r3, .inl (cy 7, 6, .inr (.inr (.inr (.inr (fun i => if i < 6 then some (g i) else none)))))), ((g 0), .inl (cy 4, 60, .inr (.inl (fun _ => 0))))] H := hP
  have hD : va_D A [(h0, .inr (7, [.ref r0, .ref r1, .ref r2, .ref r3])), (r0, .inl (cy 0, 6, .inl g_1)), (r1, .inl (cy 0, 6, .inl g_2)), (r2, .inl (cy 0, 6, .inl g_3)), (r3, .inl (cy 7, 6, .inr (.inr (.inr (.inr (fun i => if i < 6 then some (g i) else none)))))), ((g 0), .inl (cy 4, 60, .inr (.inl (fun _ => 0))))] := hD
  change W _ _ _ _ _ _ _ _ _ _ _ _ _ _ _ (F0 m 21 ls [])
  refine lv_aload_n hx hb dX7_holdRow_21 rfl (lv_at hl 0 rfl) ?_
  refine va_get (D := (dC, dI)) (ci := 7) (v := .ref r3) (C := RX7) (T := TX7) (N := 4) hx hb hts (fun _ h9 => List.mem_cons_of_mem _ (List.mem_append_right _ h9)) hown hK hP 0 rfl rfl 3 (by decide) (hts (.fieldLink RX7 23 "SeatsRound$Rows" "elements" "[[J") (List.mem_of_getElem? (i := 4) rfl)) (fun _ h9 => h9) rfl dX7_holdRow_22 ?_
  refine lv_iload_n hx hb dX7_holdRow_25 rfl (lv_at hl 1 rfl) ?_
  refine vz_aldg hx hb hK hP 4 7 rfl rfl (vp_in_nI (n := 0) (N := 6) (by decide) (by decide)) rfl dX7_holdRow_26 ?_
  refine lv_lconst (v := 0) hx hb dX7_holdRow_27 (by decide) ?_
  have hPc := hP.sub (ws' := [((g 0), .inl (cy 4, 60, .inr (.inl (fun _ => 0))))]) [5] rfl
  have hDc := hD.sub (ws' := [((g 0), .inl (cy 4, 60, .inr (.inl (fun _ => 0))))]) [5] (by decide) rfl
  have hFc := va_free (wc := [((g 0), .inl (cy 4, 60, .inr (.inl (fun _ => 0))))]) hD hS hA [5] rfl
  refine va_callv (va_runS (As := [.ref (g 0), .long 0]) (rest := []) ⟨hx, hb, hml, hown, hts⟩ (c_fill_long l dC dI cy (g 0) 60 (fun _ => 0) 0 H.size (by decide)) (va_cwS 2 hts gX7_holdRow_J7_fill_d0a16 rfl rfl rfl (by decide +kernel) ⟨Nat.le_of_ble_eq_true rfl, Nat.le_of_ble_eq_true rfl⟩) (wp_S hK hN hPc hDc) rfl rfl hl.1 rfl (lv_room (Nat.le_of_ble_eq_true rfl)) dX7_holdRow_28 ⟨Nat.le_of_ble_eq_true rfl, Nat.le_of_ble_eq_true rfl⟩) hS (fun q _ h => hFc q h) hFc (fun u_4 t H1 locs ht hvm hw_4 hB hz1 hk1 hS => ?_)
  obtain ⟨hP1, hD1⟩ := hB
  rw [ht] at hP1
  obtain ⟨hP, hD⟩ := va_join (wr := [(h0, .inr (7, [.ref r0, .ref r1, .ref r2, .ref r3])), (r0, .inl (cy 0, 6, .inl g_1)), (r1, .inl (cy 0, 6, .inl g_2)), (r2, .inl (cy 0, 6, .inl g_3)), (r3, .inl (cy 7, 6, .inr (.inr (.inr (.inr (fun i => if i < 6 then some (g i) else none))))))]) (w1 := [((g 0), .inl (cy 4, 60, .inr (.inl (fun _ => 0))))]) hP hD [5] [0, 1, 2, 3, 4] rfl rfl (by decide) (by decide) hk1 hFc hP1 hD1
  generalize H1 = H at hP hS ⊢
  have hP : va_P (dC, dI) vwCl [(h0, .inr (7, [.ref r0, .ref r1, .ref r2, .ref r3])), (r0, .inl (cy 0, 6, .inl g_1)), (r1, .inl (cy 0, 6, .inl g_2)), (r2, .inl (cy 0, 6, .inl g_3)), (r3, .inl (cy 7, 6, .inr (.inr (.inr (.inr (fun i => if i < 6 then some (g i) else none)))))), ((g 0), .inl (cy 4, 60, .inr (.inl (fun _ => 0))))] H := hP
  have hD : va_D A [(h0, .inr (7, [.ref r0, .ref r1, .ref r2, .ref r3])), (r0, .inl (cy 0, 6, .inl g_1)), (r1, .inl (cy 0, 6, .inl g_2)), (r2, .inl (cy 0, 6, .inl g_3)), (r3, .inl (cy 7, 6, .inr (.inr (.inr (.inr (fun i => if i < 6 then some (g i) else none)))))), ((g 0), .inl (cy 4, 60, .inr (.inl (fun _ => 0))))] := hD
  exact W.vret hx hb hr (fun t ht hW => ⟨⟨(), rfl, trivial, trivial⟩, hS.F ht⟩) hS.2.2 dX7_holdRow_31
set_option maxHeartbeats 4000000 in
set_option maxRecDepth 100000 in
theorem c_RW_holdRow_1 (l : Launch) (dC : Nat → ClassId) (dI : Nat → Nat → Nat) (cy : Nat → ClassId) (h0 : Nat) (r0 : Nat) (r1 : Nat) (r2 : Nat) (r3 : Nat) (g : Nat → Nat) (p0 : Int32) (p1 : Int32) (sz : Nat)  : Met l yX7_holdRow wsX7_holdRow ({ frames := 2, cells := 0, slots := 0, locals := 47 }) (va_Pc [.ref h0, .int 1, .int p0, .int p1] (wPre (dC, dI) cy [(h0, .inr (7, [.ref r0, .ref r1, .ref r2, .ref r3])), (r0, .inl (cy 0, 6, .inl (fun _ => (-1)))), (r1, .inl (cy 0, 6, .inl (fun _ => (-1)))), (r2, .inl (cy 0, 6, .inl (fun _ => 0))), (r3, .inl (cy 7, 6, .inr (.inr (.inr (.inr (fun i => if i < 6 then some (g i) else none)))))), ((g 1), .inl (cy 4, 60, .inr (.inl (fun _ => 0))))] sz)) (va_Qv (fun (u : Unit) => True) (fun (u : Unit) t => True) (va_A [(h0, .inr (7, [.ref r0, .ref r1, .ref r2, .ref r3])), (r0, .inl (cy 0, 6, .inl (fun _ => (-1)))), (r1, .inl (cy 0, 6, .inl (fun _ => (-1)))), (r2, .inl (cy 0, 6, .inl (fun _ => 0))), (r3, .inl (cy 7, 6, .inr (.inr (.inr (.inr (fun i => if i < 6 then some (g i) else none)))))), ((g 1), .inl (cy 4, 60, .inr (.inl (fun _ => 0))))] sz)) 0 0 (va_A [(h0, .inr (7, [.ref r0, .ref r1, .ref r2, .ref r3])), (r0, .inl (cy 0, 6, .inl (fun _ => (-1)))), (r1, .inl (cy 0, 6, .inl (fun _ => (-1)))), (r2, .inl (cy 0, 6, .inl (fun _ => 0))), (r3, .inl (cy 7, 6, .inr (.inr (.inr (.inr (fun i => if i < 6 then some (g i) else none)))))), ((g 1), .inl (cy 4, 60, .inr (.inl (fun _ => 0))))] sz) := by
  refine Met.ofW (cc := cX7_holdRow) (maxL := 4) (ret := none) (by decide) rfl ?_
  intro p e s m args below meth c s₁ B hml hv
  obtain ⟨rfl, hsz, hP, hK, hD0, hN⟩ := hv
  have hx := B.exec
  have hb := B.bytes
  have hr := B.returns
  have hts := atoms_spec (ws := wsX7_holdRow) B.pre
  have hown : s.vm.findClass RX7 = some m.cls := findClass_of_methodNamed B.named
  have hlocks := B.notSynchronized
  subst hsz
  have hD := hD0.self (sz := s.heap.size)
  generalize hAe : va_A [(h0, .inr (7, [.ref r0, .ref r1, .ref r2, .ref r3])), (r0, .inl (cy 0, 6, .inl (fun _ => (-1)))), (r1, .inl (cy 0, 6, .inl (fun _ => (-1)))), (r2, .inl (cy 0, 6, .inl (fun _ => 0))), (r3, .inl (cy 7, 6, .inr (.inr (.inr (.inr (fun i => if i < 6 then some (g i) else none)))))), ((g 1), .inl (cy 4, 60, .inr (.inl (fun _ => 0))))] s.heap.size = A at hD ⊢
  have hA : ∀ q : Nat, s.heap.size ≤ q → A q := fun q h => by rw [← hAe]; exact Or.inr h
  have hS : va_S A s.heap s.heap [] := va_S.rf
  have hl := lv_entry ([.ref h0, .int 1, .int p0, .int p1]) (n := 4) (Nat.le_of_ble_eq_true rfl)
  rw [lg_entry_eq]
  generalize (lg_sl ([.ref h0, .int 1, .int p0, .int p1]) ++ List.replicate (4 - (lg_sl ([.ref h0, .int 1, .int p0, .int p1])).length) Slot.unset).toArray = ls at hl ⊢
  have hl : lv_has ls 4 [(0, .ref h0), (1, .int 1), (2, .int p0), (3, .int p1)] := hl
  refine lv_aload_n hx hb dX7_holdRow_0 rfl (lv_at hl 0 rfl) ?_
  refine va_get (D := (dC, dI)) (ci := 7) (v := .ref r0) (C := RX7) (T := TX7) (N := 4) hx hb hts (fun _ h9 => List.mem_cons_of_mem _ (List.mem_append_right _ h9)) hown hK hP 0 rfl rfl 0 (by decide) (hts (.fieldLink RX7 9 "SeatsRound$Rows" "keeper" "[I") (List.mem_of_getElem? (i := 1) rfl)) (fun _ h9 => h9) rfl dX7_holdRow_1 ?_
  refine lv_iload_n hx hb dX7_holdRow_4 rfl (lv_at hl 1 rfl) ?_
  refine lv_iconst (v := (-1)) hx hb dX7_holdRow_5 (by decide) ?_
  refine va_iast hx hb hK hP hD hS 1 0 rfl rfl (vp_in_nI (n := 1) (N := 6) (by decide) (by decide)) dX7_holdRow_6 (fun H locs hP hD hS => ?_)
  generalize upd (fun _ => (-1)) (Int32.toNatClampNeg 1) (-1) = g_1 at hP hD
  have hP : va_P (dC, dI) vwCl [(h0, .inr (7, [.ref r0, .ref r1, .ref r2, .ref r3])), (r0, .inl (cy 0, 6, .inl g_1)), (r1, .inl (cy 0, 6, .inl (fun _ => (-1)))), (r2, .inl (cy 0, 6, .inl (fun _ => 0))), (r3, .inl (cy 7, 6, .inr (.inr (.inr (.inr (fun i => if i < 6 then some (g i) else none)))))), ((g 1), .inl (cy 4, 60, .inr (.inl (fun _ => 0))))] H := hP
  have hD : va_D A [(h0, .inr (7, [.ref r0, .ref r1, .ref r2, .ref r3])), (r0, .inl (cy 0, 6, .inl g_1)), (r1, .inl (cy 0, 6, .inl (fun _ => (-1)))), (r2, .inl (cy 0, 6, .inl (fun _ => 0))), (r3, .inl (cy 7, 6, .inr (.inr (.inr (.inr (fun i => if i < 6 then some (g i) else none)))))), ((g 1), .inl (cy 4, 60, .inr (.inl (fun _ => 0))))] := hD
  change W _ _ _ _ _ _ _ _ _ _ _ _ _ _ _ (F0 m 7 ls [])
  refine lv_aload_n hx hb dX7_holdRow_7 rfl (lv_at hl 0 rfl) ?_
  refine va_get (D := (dC, dI)) (ci := 7) (v := .ref r1) (C := RX7) (T := TX7) (N := 4) hx hb hts (fun _ h9 => List.mem_cons_of_mem _ (List.mem_append_right _ h9)) hown hK hP 0 rfl rfl 1 (by decide) (hts (.fieldLink RX7 15 "SeatsRound$Rows" "sort" "[I") (List.mem_of_getElem? (i := 2) rfl)) (fun _ h9 => h9) rfl dX7_holdRow_8 ?_
  refine lv_iload_n hx hb dX7_holdRow_11 rfl (lv_at hl 1 rfl) ?_
  refine lv_iload_n hx hb dX7_holdRow_12 rfl (lv_at hl 2 rfl) ?_
  refine va_iast hx hb hK hP hD hS 2 0 rfl rfl (vp_in_nI (n := 1) (N := 6) (by decide) (by decide)) dX7_holdRow_13 (fun H locs hP hD hS => ?_)
  generalize upd (fun _ => (-1)) (Int32.toNatClampNeg 1) p0 = g_2 at hP hD
  have hP : va_P (dC, dI) vwCl [(h0, .inr (7, [.ref r0, .ref r1, .ref r2, .ref r3])), (r0, .inl (cy 0, 6, .inl g_1)), (r1, .inl (cy 0, 6, .inl g_2)), (r2, .inl (cy 0, 6, .inl (fun _ => 0))), (r3, .inl (cy 7, 6, .inr (.inr (.inr (.inr (fun i => if i < 6 then some (g i) else none)))))), ((g 1), .inl (cy 4, 60, .inr (.inl (fun _ => 0))))] H := hP
  have hD : va_D A [(h0, .inr (7, [.ref r0, .ref r1, .ref r2, .ref r3])), (r0, .inl (cy 0, 6, .inl g_1)), (r1, .inl (cy 0, 6, .inl g_2)), (r2, .inl (cy 0, 6, .inl (fun _ => 0))), (r3, .inl (cy 7, 6, .inr (.inr (.inr (.inr (fun i => if i < 6 then some (g i) else none)))))), ((g 1), .inl (cy 4, 60, .inr (.inl (fun _ => 0))))] := hD
  refine lv_aload_n hx hb dX7_holdRow_14 rfl (lv_at hl 0 rfl) ?_
  refine va_get (D := (dC, dI)) (ci := 7) (v := .ref r2) (C := RX7) (T := TX7) (N := 4) hx hb hts (fun _ h9 => List.mem_cons_of_mem _ (List.mem_append_right _ h9)) hown hK hP 0 rfl rfl 2 (by decide) (hts (.fieldLink RX7 18 "SeatsRound$Rows" "length" "[I") (List.mem_of_getElem? (i := 3) rfl)) (fun _ h9 => h9) rfl dX7_holdRow_15 ?_
  refine lv_iload_n hx hb dX7_holdRow_18 rfl (lv_at hl 1 rfl) ?_
  change W _ _ _ _ _ _ _ _ _ _ _ _ _ _ _ (F0 m 19 ls [.int 1, .ref r2])
  refine lv_iload_n hx hb dX7_holdRow_19 rfl (lv_at hl 3 rfl) ?_
  refine va_iast hx hb hK hP hD hS 3 0 rfl rfl (vp_in_nI (n := 1) (N := 6) (by decide) (by decide)) dX7_holdRow_20 (fun H locs hP hD hS => ?_)
  generalize upd (fun _ => 0) (Int32.toNatClampNeg 1) p1 = g_3 at hP hD
  have hP : va_P (dC, dI) vwCl [(h0, .inr (7, [.ref r0, .ref r1, .ref r2, .ref r3])), (r0, .inl (cy 0, 6, .inl g_1)), (r1, .inl (cy 0, 6, .inl g_2)), (r2, .inl (cy 0, 6, .inl g_3)), (r3, .inl (cy 7, 6, .inr (.inr (.inr (.inr (fun i => if i < 6 then some (g i) else none)))))), ((g 1), .inl (cy 4, 60, .inr (.inl (fun _ => 0))))] H := hP
  have hD : va_D A [(h0, .inr (7, [.ref r0, .ref r1, .ref r2, .ref r3])), (r0, .inl (cy 0, 6, .inl g_1)), (r1, .inl (cy 0, 6, .inl g_2)), (r2, .inl (cy 0, 6, .inl g_3)), (r3, .inl (cy 7, 6, .inr (.inr (.inr (.inr (fun i => if i < 6 then some (g i) else none)))))), ((g 1), .inl (cy 4, 60, .inr (.inl (fun _ => 0))))] := hD
  refine lv_aload_n hx hb dX7_holdRow_21 rfl (lv_at hl 0 rfl) ?_
  refine va_get (D := (dC, dI)) (ci := 7) (v := .ref r3) (C := RX7) (T := TX7) (N := 4) hx hb hts (fun _ h9 => List.mem_cons_of_mem _ (List.mem_append_right _ h9)) hown hK hP 0 rfl rfl 3 (by decide) (hts (.fieldLink RX7 23 "SeatsRound$Rows" "elements" "[[J") (List.mem_of_getElem? (i := 4) rfl)) (fun _ h9 => h9) rfl dX7_holdRow_22 ?_
  refine lv_iload_n hx hb dX7_holdRow_25 rfl (lv_at hl 1 rfl) ?_
  refine vz_aldg hx hb hK hP 4 7 rfl rfl (vp_in_nI (n := 1) (N := 6) (by decide) (by decide)) rfl dX7_holdRow_26 ?_
  refine lv_lconst (v := 0) hx hb dX7_holdRow_27 (by decide) ?_
  have hPc := hP.sub (ws' := [((g 1), .inl (cy 4, 60, .inr (.inl (fun _ => 0))))]) [5] rfl
  have hDc := hD.sub (ws' := [((g 1), .inl (cy 4, 60, .inr (.inl (fun _ => 0))))]) [5] (by decide) rfl
  have hFc := va_free (wc := [((g 1), .inl (cy 4, 60, .inr (.inl (fun _ => 0))))]) hD hS hA [5] rfl
  refine va_callv (va_runS (As := [.ref (g 1), .long 0]) (rest := []) ⟨hx, hb, hml, hown, hts⟩ (c_fill_long l dC dI cy (g 1) 60 (fun _ => 0) 0 H.size (by decide)) (va_cwS 2 hts gX7_holdRow_J7_fill_d0a16 rfl rfl rfl (by decide +kernel) ⟨Nat.le_of_ble_eq_true rfl, Nat.le_of_ble_eq_true rfl⟩) (wp_S hK hN hPc hDc) rfl rfl hl.1 rfl (lv_room (Nat.le_of_ble_eq_true rfl)) dX7_holdRow_28 ⟨Nat.le_of_ble_eq_true rfl, Nat.le_of_ble_eq_true rfl⟩) hS (fun q _ h => hFc q h) hFc (fun u_4 t H1 locs ht hvm hw_4 hB hz1 hk1 hS => ?_)
  obtain ⟨hP1, hD1⟩ := hB
  rw [ht] at hP1
  obtain ⟨hP, hD⟩ := va_join (wr := [(h0, .inr (7, [.ref r0, .ref r1, .ref r2, .ref r3])), (r0, .inl (cy 0, 6, .inl g_1)), (r1, .inl (cy 0, 6, .inl g_2)), (r2, .inl (cy 0, 6, .inl g_3)), (r3, .inl (cy 7, 6, .inr (.inr (.inr (.inr (fun i => if i < 6 then some (g i) else none))))))]) (w1 := [((g 1), .inl (cy 4, 60, .inr (.inl (fun _ => 0))))]) hP hD [5] [0, 1, 2, 3, 4] rfl rfl (by decide) (by decide) hk1 hFc hP1 hD1
  generalize H1 = H at hP hS ⊢
  have hP : va_P (dC, dI) vwCl [(h0, .inr (7, [.ref r0, .ref r1, .ref r2, .ref r3])), (r0, .inl (cy 0, 6, .inl g_1)), (r1, .inl (cy 0, 6, .inl g_2)), (r2, .inl (cy 0, 6, .inl g_3)), (r3, .inl (cy 7, 6, .inr (.inr (.inr (.inr (fun i => if i < 6 then some (g i) else none)))))), ((g 1), .inl (cy 4, 60, .inr (.inl (fun _ => 0))))] H := hP
  have hD : va_D A [(h0, .inr (7, [.ref r0, .ref r1, .ref r2, .ref r3])), (r0, .inl (cy 0, 6, .inl g_1)), (r1, .inl (cy 0, 6, .inl g_2)), (r2, .inl (cy 0, 6, .inl g_3)), (r3, .inl (cy 7, 6, .inr (.inr (.inr (.inr (fun i => if i < 6 then some (g i) else none)))))), ((g 1), .inl (cy 4, 60, .inr (.inl (fun _ => 0))))] := hD
  change W _ _ _ _ _ _ _ _ _ _ _ _ _ _ _ (F0 m 31 ls [])
  exact W.vret hx hb hr (fun t ht hW => ⟨⟨(), rfl, trivial, trivial⟩, hS.F ht⟩) hS.2.2 dX7_holdRow_31
set_option maxHeartbeats 4000000 in
set_option maxRecDepth 100000 in
theorem c_RW_holdRow_2 (l : Launch) (dC : Nat → ClassId) (dI : Nat → Nat → Nat) (cy : Nat → ClassId) (h0 : Nat) (r0 : Nat) (r1 : Nat) (r2 : Nat) (r3 : Nat) (g : Nat → Nat) (p0 : Int32) (p1 : Int32) (sz : Nat)  : Met l yX7_holdRow wsX7_holdRow ({ frames := 2, cells := 0, slots := 0, locals := 47 }) (va_Pc [.ref h0, .int 2, .int p0, .int p1] (wPre (dC, dI) cy [(h0, .inr (7, [.ref r0, .ref r1, .ref r2, .ref r3])), (r0, .inl (cy 0, 6, .inl (fun _ => (-1)))), (r1, .inl (cy 0, 6, .inl (fun _ => (-1)))), (r2, .inl (cy 0, 6, .inl (fun _ => 0))), (r3, .inl (cy 7, 6, .inr (.inr (.inr (.inr (fun i => if i < 6 then some (g i) else none)))))), ((g 2), .inl (cy 4, 60, .inr (.inl (fun _ => 0))))] sz)) (va_Qv (fun (u : Unit) => True) (fun (u : Unit) t => True) (va_A [(h0, .inr (7, [.ref r0, .ref r1, .ref r2, .ref r3])), (r0, .inl (cy 0, 6, .inl (fun _ => (-1)))), (r1, .inl (cy 0, 6, .inl (fun _ => (-1)))), (r2, .inl (cy 0, 6, .inl (fun _ => 0))), (r3, .inl (cy 7, 6, .inr (.inr (.inr (.inr (fun i => if i < 6 then some (g i) else none)))))), ((g 2), .inl (cy 4, 60, .inr (.inl (fun _ => 0))))] sz)) 0 0 (va_A [(h0, .inr (7, [.ref r0, .ref r1, .ref r2, .ref r3])), (r0, .inl (cy 0, 6, .inl (fun _ => (-1)))), (r1, .inl (cy 0, 6, .inl (fun _ => (-1)))), (r2, .inl (cy 0, 6, .inl (fun _ => 0))), (r3, .inl (cy 7, 6, .inr (.inr (.inr (.inr (fun i => if i < 6 then some (g i) else none)))))), ((g 2), .inl (cy 4, 60, .inr (.inl (fun _ => 0))))] sz) := by
  refine Met.ofW (cc := cX7_holdRow) (maxL := 4) (ret := none) (by decide) rfl ?_
  intro p e s m args below meth c s₁ B hml hv
  obtain ⟨rfl, hsz, hP, hK, hD0, hN⟩ := hv
  have hx := B.exec
  have hb := B.bytes
  have hr := B.returns
  have hts := atoms_spec (ws := wsX7_holdRow) B.pre
  have hown : s.vm.findClass RX7 = some m.cls := findClass_of_methodNamed B.named
  have hlocks := B.notSynchronized
  subst hsz
  have hD := hD0.self (sz := s.heap.size)
  generalize hAe : va_A [(h0, .inr (7, [.ref r0, .ref r1, .ref r2, .ref r3])), (r0, .inl (cy 0, 6, .inl (fun _ => (-1)))), (r1, .inl (cy 0, 6, .inl (fun _ => (-1)))), (r2, .inl (cy 0, 6, .inl (fun _ => 0))), (r3, .inl (cy 7, 6, .inr (.inr (.inr (.inr (fun i => if i < 6 then some (g i) else none)))))), ((g 2), .inl (cy 4, 60, .inr (.inl (fun _ => 0))))] s.heap.size = A at hD ⊢
  have hA : ∀ q : Nat, s.heap.size ≤ q → A q := fun q h => by rw [← hAe]; exact Or.inr h
  have hS : va_S A s.heap s.heap [] := va_S.rf
  have hl := lv_entry ([.ref h0, .int 2, .int p0, .int p1]) (n := 4) (Nat.le_of_ble_eq_true rfl)
  rw [lg_entry_eq]
  generalize (lg_sl ([.ref h0, .int 2, .int p0, .int p1]) ++ List.replicate (4 - (lg_sl ([.ref h0, .int 2, .int p0, .int p1])).length) Slot.unset).toArray = ls at hl ⊢
  have hl : lv_has ls 4 [(0, .ref h0), (1, .int 2), (2, .int p0), (3, .int p1)] := hl
  refine lv_aload_n hx hb dX7_holdRow_0 rfl (lv_at hl 0 rfl) ?_
  refine va_get (D := (dC, dI)) (ci := 7) (v := .ref r0) (C := RX7) (T := TX7) (N := 4) hx hb hts (fun _ h9 => List.mem_cons_of_mem _ (List.mem_append_right _ h9)) hown hK hP 0 rfl rfl 0 (by decide) (hts (.fieldLink RX7 9 "SeatsRound$Rows" "keeper" "[I") (List.mem_of_getElem? (i := 1) rfl)) (fun _ h9 => h9) rfl dX7_holdRow_1 ?_
  refine lv_iload_n hx hb dX7_holdRow_4 rfl (lv_at hl 1 rfl) ?_
  change W _ _ _ _ _ _ _ _ _ _ _ _ _ _ _ (F0 m 5 ls [.int 2, .ref r0])
  refine lv_iconst (v := (-1)) hx hb dX7_holdRow_5 (by decide) ?_
  refine va_iast hx hb hK hP hD hS 1 0 rfl rfl (vp_in_nI (n := 2) (N := 6) (by decide) (by decide)) dX7_holdRow_6 (fun H locs hP hD hS => ?_)
  generalize upd (fun _ => (-1)) (Int32.toNatClampNeg 2) (-1) = g_1 at hP hD
  have hP : va_P (dC, dI) vwCl [(h0, .inr (7, [.ref r0, .ref r1, .ref r2, .ref r3])), (r0, .inl (cy 0, 6, .inl g_1)), (r1, .inl (cy 0, 6, .inl (fun _ => (-1)))), (r2, .inl (cy 0, 6, .inl (fun _ => 0))), (r3, .inl (cy 7, 6, .inr (.inr (.inr (.inr (fun i => if i < 6 then some (g i) else none)))))), ((g 2), .inl (cy 4, 60, .inr (.inl (fun _ => 0))))] H := hP
  have hD : va_D A [(h0, .inr (7, [.ref r0, .ref r1, .ref r2, .ref r3])), (r0, .inl (cy 0, 6, .inl g_1)), (r1, .inl (cy 0, 6, .inl (fun _ => (-1)))), (r2, .inl (cy 0, 6, .inl (fun _ => 0))), (r3, .inl (cy 7, 6, .inr (.inr (.inr (.inr (fun i => if i < 6 then some (g i) else none)))))), ((g 2), .inl (cy 4, 60, .inr (.inl (fun _ => 0))))] := hD
  refine lv_aload_n hx hb dX7_holdRow_7 rfl (lv_at hl 0 rfl) ?_
  refine va_get (D := (dC, dI)) (ci := 7) (v := .ref r1) (C := RX7) (T := TX7) (N := 4) hx hb hts (fun _ h9 => List.mem_cons_of_mem _ (List.mem_append_right _ h9)) hown hK hP 0 rfl rfl 1 (by decide) (hts (.fieldLink RX7 15 "SeatsRound$Rows" "sort" "[I") (List.mem_of_getElem? (i := 2) rfl)) (fun _ h9 => h9) rfl dX7_holdRow_8 ?_
  refine lv_iload_n hx hb dX7_holdRow_11 rfl (lv_at hl 1 rfl) ?_
  refine lv_iload_n hx hb dX7_holdRow_12 rfl (lv_at hl 2 rfl) ?_
  refine va_iast hx hb hK hP hD hS 2 0 rfl rfl (vp_in_nI (n := 2) (N := 6) (by decide) (by decide)) dX7_holdRow_13 (fun H locs hP hD hS => ?_)
  generalize upd (fun _ => (-1)) (Int32.toNatClampNeg 2) p0 = g_2 at hP hD
  have hP : va_P (dC, dI) vwCl [(h0, .inr (7, [.ref r0, .ref r1, .ref r2, .ref r3])), (r0, .inl (cy 0, 6, .inl g_1)), (r1, .inl (cy 0, 6, .inl g_2)), (r2, .inl (cy 0, 6, .inl (fun _ => 0))), (r3, .inl (cy 7, 6, .inr (.inr (.inr (.inr (fun i => if i < 6 then some (g i) else none)))))), ((g 2), .inl (cy 4, 60, .inr (.inl (fun _ => 0))))] H := hP
  have hD : va_D A [(h0, .inr (7, [.ref r0, .ref r1, .ref r2, .ref r3])), (r0, .inl (cy 0, 6, .inl g_1)), (r1, .inl (cy 0, 6, .inl g_2)), (r2, .inl (cy 0, 6, .inl (fun _ => 0))), (r3, .inl (cy 7, 6, .inr (.inr (.inr (.inr (fun i => if i < 6 then some (g i) else none)))))), ((g 2), .inl (cy 4, 60, .inr (.inl (fun _ => 0))))] := hD
  refine lv_aload_n hx hb dX7_holdRow_14 rfl (lv_at hl 0 rfl) ?_
  change W _ _ _ _ _ _ _ _ _ _ _ _ _ _ _ (F0 m 15 ls [.ref h0])
  refine va_get (D := (dC, dI)) (ci := 7) (v := .ref r2) (C := RX7) (T := TX7) (N := 4) hx hb hts (fun _ h9 => List.mem_cons_of_mem _ (List.mem_append_right _ h9)) hown hK hP 0 rfl rfl 2 (by decide) (hts (.fieldLink RX7 18 "SeatsRound$Rows" "length" "[I") (List.mem_of_getElem? (i := 3) rfl)) (fun _ h9 => h9) rfl dX7_holdRow_15 ?_
  refine lv_iload_n hx hb dX7_holdRow_18 rfl (lv_at hl 1 rfl) ?_
  refine lv_iload_n hx hb dX7_holdRow_19 rfl (lv_at hl 3 rfl) ?_
  refine va_iast hx hb hK hP hD hS 3 0 rfl rfl (vp_in_nI (n := 2) (N := 6) (by decide) (by decide)) dX7_holdRow_20 (fun H locs hP hD hS => ?_)
  generalize upd (fun _ => 0) (Int32.toNatClampNeg 2) p1 = g_3 at hP hD
  have hP : va_P (dC, dI) vwCl [(h0, .inr (7, [.ref r0, .ref r1, .ref r2, .ref r3])), (r0, .inl (cy 0, 6, .inl g_1)), (r1, .inl (cy 0, 6, .inl g_2)), (r2, .inl (cy 0, 6, .inl g_3)), (r3, .inl (cy 7, 6, .inr (.inr (.inr (.inr (fun i => if i < 6 then some (g i) else none)))))), ((g 2), .inl (cy 4, 60, .inr (.inl (fun _ => 0))))] H := hP
  have hD : va_D A [(h0, .inr (7, [.ref r0, .ref r1, .ref r2, .ref r3])), (r0, .inl (cy 0, 6, .inl g_1)), (r1, .inl (cy 0, 6, .inl g_2)), (r2, .inl (cy 0, 6, .inl g_3)), (r3, .inl (cy 7, 6, .inr (.inr (.inr (.inr (fun i => if i < 6 then some (g i) else none)))))), ((g 2), .inl (cy 4, 60, .inr (.inl (fun _ => 0))))] := hD
  refine lv_aload_n hx hb dX7_holdRow_21 rfl (lv_at hl 0 rfl) ?_
  refine va_get (D := (dC, dI)) (ci := 7) (v := .ref r3) (C := RX7) (T := TX7) (N := 4) hx hb hts (fun _ h9 => List.mem_cons_of_mem _ (List.mem_append_right _ h9)) hown hK hP 0 rfl rfl 3 (by decide) (hts (.fieldLink RX7 23 "SeatsRound$Rows" "elements" "[[J") (List.mem_of_getElem? (i := 4) rfl)) (fun _ h9 => h9) rfl dX7_holdRow_22 ?_
  refine lv_iload_n hx hb dX7_holdRow_25 rfl (lv_at hl 1 rfl) ?_
  refine vz_aldg hx hb hK hP 4 7 rfl rfl (vp_in_nI (n := 2) (N := 6) (by decide) (by decide)) rfl dX7_holdRow_26 ?_
  change W _ _ _ _ _ _ _ _ _ _ _ _ _ _ _ (F0 m 27 ls [.ref (g 2)])
  refine lv_lconst (v := 0) hx hb dX7_holdRow_27 (by decide) ?_
  have hPc := hP.sub (ws' := [((g 2), .inl (cy 4, 60, .inr (.inl (fun _ => 0))))]) [5] rfl
  have hDc := hD.sub (ws' := [((g 2), .inl (cy 4, 60, .inr (.inl (fun _ => 0))))]) [5] (by decide) rfl
  have hFc := va_free (wc := [((g 2), .inl (cy 4, 60, .inr (.inl (fun _ => 0))))]) hD hS hA [5] rfl
  refine va_callv (va_runS (As := [.ref (g 2), .long 0]) (rest := []) ⟨hx, hb, hml, hown, hts⟩ (c_fill_long l dC dI cy (g 2) 60 (fun _ => 0) 0 H.size (by decide)) (va_cwS 2 hts gX7_holdRow_J7_fill_d0a16 rfl rfl rfl (by decide +kernel) ⟨Nat.le_of_ble_eq_true rfl, Nat.le_of_ble_eq_true rfl⟩) (wp_S hK hN hPc hDc) rfl rfl hl.1 rfl (lv_room (Nat.le_of_ble_eq_true rfl)) dX7_holdRow_28 ⟨Nat.le_of_ble_eq_true rfl, Nat.le_of_ble_eq_true rfl⟩) hS (fun q _ h => hFc q h) hFc (fun u_4 t H1 locs ht hvm hw_4 hB hz1 hk1 hS => ?_)
  obtain ⟨hP1, hD1⟩ := hB
  rw [ht] at hP1
  obtain ⟨hP, hD⟩ := va_join (wr := [(h0, .inr (7, [.ref r0, .ref r1, .ref r2, .ref r3])), (r0, .inl (cy 0, 6, .inl g_1)), (r1, .inl (cy 0, 6, .inl g_2)), (r2, .inl (cy 0, 6, .inl g_3)), (r3, .inl (cy 7, 6, .inr (.inr (.inr (.inr (fun i => if i < 6 then some (g i) else none))))))]) (w1 := [((g 2), .inl (cy 4, 60, .inr (.inl (fun _ => 0))))]) hP hD [5] [0, 1, 2, 3, 4] rfl rfl (by decide) (by decide) hk1 hFc hP1 hD1
  generalize H1 = H at hP hS ⊢
  have hP : va_P (dC, dI) vwCl [(h0, .inr (7, [.ref r0, .ref r1, .ref r2, .ref r3])), (r0, .inl (cy 0, 6, .inl g_1)), (r1, .inl (cy 0, 6, .inl g_2)), (r2, .inl (cy 0, 6, .inl g_3)), (r3, .inl (cy 7, 6, .inr (.inr (.inr (.inr (fun i => if i < 6 then some (g i) else none)))))), ((g 2), .inl (cy 4, 60, .inr (.inl (fun _ => 0))))] H := hP
  have hD : va_D A [(h0, .inr (7, [.ref r0, .ref r1, .ref r2, .ref r3])), (r0, .inl (cy 0, 6, .inl g_1)), (r1, .inl (cy 0, 6, .inl g_2)), (r2, .inl (cy 0, 6, .inl g_3)), (r3, .inl (cy 7, 6, .inr (.inr (.inr (.inr (fun i => if i < 6 then some (g i) else none)))))), ((g 2), .inl (cy 4, 60, .inr (.inl (fun _ => 0))))] := hD
  exact W.vret hx hb hr (fun t ht hW => ⟨⟨(), rfl, trivial, trivial⟩, hS.F ht⟩) hS.2.2 dX7_holdRow_31
set_option maxHeartbeats 4000000 in
set_option maxRecDepth 100000 in
theorem c_RW_holdRow_3 (l : Launch) (dC : Nat → ClassId) (dI : Nat → Nat → Nat) (cy : Nat → ClassId) (h0 : Nat) (r0 : Nat) (r1 : Nat) (r2 : Nat) (r3 : Nat) (g : Nat → Nat) (p0 : Int32) (p1 : Int32) (sz : Nat)  : Met l yX7_holdRow wsX7_holdRow ({ frames := 2, cells := 0, slots := 0, locals := 47 }) (va_Pc [.ref h0, .int 3, .int p0, .int p1] (wPre (dC, dI) cy [(h0, .inr (7, [.ref r0, .ref r1, .ref r2, .ref r3])), (r0, .inl (cy 0, 6, .inl (fun _ => (-1)))), (r1, .inl (cy 0, 6, .inl (fun _ => (-1)))), (r2, .inl (cy 0, 6, .inl (fun _ => 0))), (r3, .inl (cy 7, 6, .inr (.inr (.inr (.inr (fun i => if i < 6 then some (g i) else none)))))), ((g 3), .inl (cy 4, 60, .inr (.inl (fun _ => 0))))] sz)) (va_Qv (fun (u : Unit) => True) (fun (u : Unit) t => True) (va_A [(h0, .inr (7, [.ref r0, .ref r1, .ref r2, .ref r3])), (r0, .inl (cy 0, 6, .inl (fun _ => (-1)))), (r1, .inl (cy 0, 6, .inl (fun _ => (-1)))), (r2, .inl (cy 0, 6, .inl (fun _ => 0))), (r3, .inl (cy 7, 6, .inr (.inr (.inr (.inr (fun i => if i < 6 then some (g i) else none)))))), ((g 3), .inl (cy 4, 60, .inr (.inl (fun _ => 0))))] sz)) 0 0 (va_A [(h0, .inr (7, [.ref r0, .ref r1, .ref r2, .ref r3])), (r0, .inl (cy 0, 6, .inl (fun _ => (-1)))), (r1, .inl (cy 0, 6, .inl (fun _ => (-1)))), (r2, .inl (cy 0, 6, .inl (fun _ => 0))), (r3, .inl (cy 7, 6, .inr (.inr (.inr (.inr (fun i => if i < 6 then some (g i) else none)))))), ((g 3), .inl (cy 4, 60, .inr (.inl (fun _ => 0))))] sz) := by
  refine Met.ofW (cc := cX7_holdRow) (maxL := 4) (ret := none) (by decide) rfl ?_
  intro p e s m args below meth c s₁ B hml hv
  obtain ⟨rfl, hsz, hP, hK, hD0, hN⟩ := hv
  have hx := B.exec
  have hb := B.bytes
  have hr := B.returns
  have hts := atoms_spec (ws := wsX7_holdRow) B.pre
  have hown : s.vm.findClass RX7 = some m.cls := findClass_of_methodNamed B.named
  have hlocks := B.notSynchronized
  subst hsz
  have hD := hD0.self (sz := s.heap.size)
  generalize hAe : va_A [(h0, .inr (7, [.ref r0, .ref r1, .ref r2, .ref r3])), (r0, .inl (cy 0, 6, .inl (fun _ => (-1)))), (r1, .inl (cy 0, 6, .inl (fun _ => (-1)))), (r2, .inl (cy 0, 6, .inl (fun _ => 0))), (r3, .inl (cy 7, 6, .inr (.inr (.inr (.inr (fun i => if i < 6 then some (g i) else none)))))), ((g 3), .inl (cy 4, 60, .inr (.inl (fun _ => 0))))] s.heap.size = A at hD ⊢
  have hA : ∀ q : Nat, s.heap.size ≤ q → A q := fun q h => by rw [← hAe]; exact Or.inr h
  have hS : va_S A s.heap s.heap [] := va_S.rf
  have hl := lv_entry ([.ref h0, .int 3, .int p0, .int p1]) (n := 4) (Nat.le_of_ble_eq_true rfl)
  rw [lg_entry_eq]
  generalize (lg_sl ([.ref h0, .int 3, .int p0, .int p1]) ++ List.replicate (4 - (lg_sl ([.ref h0, .int 3, .int p0, .int p1])).length) Slot.unset).toArray = ls at hl ⊢
  have hl : lv_has ls 4 [(0, .ref h0), (1, .int 3), (2, .int p0), (3, .int p1)] := hl
  refine lv_aload_n hx hb dX7_holdRow_0 rfl (lv_at hl 0 rfl) ?_
  change W _ _ _ _ _ _ _ _ _ _ _ _ _ _ _ (F0 m 1 ls [.ref h0])
  refine va_get (D := (dC, dI)) (ci := 7) (v := .ref r0) (C := RX7) (T := TX7) (N := 4) hx hb hts (fun _ h9 => List.mem_cons_of_mem _ (List.mem_append_right _ h9)) hown hK hP 0 rfl rfl 0 (by decide) (hts (.fieldLink RX7 9 "SeatsRound$Rows" "keeper" "[I") (List.mem_of_getElem? (i := 1) rfl)) (fun _ h9 => h9) rfl dX7_holdRow_1 ?_
  refine lv_iload_n hx hb dX7_holdRow_4 rfl (lv_at hl 1 rfl) ?_
  refine lv_iconst (v := (-1)) hx hb dX7_holdRow_5 (by decide) ?_
  refine va_iast hx hb hK hP hD hS 1 0 rfl rfl (vp_in_nI (n := 3) (N := 6) (by decide) (by decide)) dX7_holdRow_6 (fun H locs hP hD hS => ?_)
  generalize upd (fun _ => (-1)) (Int32.toNatClampNeg 3) (-1) = g_1 at hP hD
  have hP : va_P (dC, dI) vwCl [(h0, .inr (7, [.ref r0, .ref r1, .ref r2, .ref r3])), (r0, .inl (cy 0, 6, .inl g_1)), (r1, .inl (cy 0, 6, .inl (fun _ => (-1)))), (r2, .inl (cy 0, 6, .inl (fun _ => 0))), (r3, .inl (cy 7, 6, .inr (.inr (.inr (.inr (fun i => if i < 6 then some (g i) else none)))))), ((g 3), .inl (cy 4, 60, .inr (.inl (fun _ => 0))))] H := hP
  have hD : va_D A [(h0, .inr (7, [.ref r0, .ref r1, .ref r2, .ref r3])), (r0, .inl (cy 0, 6, .inl g_1)), (r1, .inl (cy 0, 6, .inl (fun _ => (-1)))), (r2, .inl (cy 0, 6, .inl (fun _ => 0))), (r3, .inl (cy 7, 6, .inr (.inr (.inr (.inr (fun i => if i < 6 then some (g i) else none)))))), ((g 3), .inl (cy 4, 60, .inr (.inl (fun _ => 0))))] := hD
  refine lv_aload_n hx hb dX7_holdRow_7 rfl (lv_at hl 0 rfl) ?_
  refine va_get (D := (dC, dI)) (ci := 7) (v := .ref r1) (C := RX7) (T := TX7) (N := 4) hx hb hts (fun _ h9 => List.mem_cons_of_mem _ (List.mem_append_right _ h9)) hown hK hP 0 rfl rfl 1 (by decide) (hts (.fieldLink RX7 15 "SeatsRound$Rows" "sort" "[I") (List.mem_of_getElem? (i := 2) rfl)) (fun _ h9 => h9) rfl dX7_holdRow_8 ?_
  refine lv_iload_n hx hb dX7_holdRow_11 rfl (lv_at hl 1 rfl) ?_
  refine lv_iload_n hx hb dX7_holdRow_12 rfl (lv_at hl 2 rfl) ?_
  change W _ _ _ _ _ _ _ _ _ _ _ _ _ _ _ (F0 m 13 ls [.int p0, .int 3, .ref r1])
  refine va_iast hx hb hK hP hD hS 2 0 rfl rfl (vp_in_nI (n := 3) (N := 6) (by decide) (by decide)) dX7_holdRow_13 (fun H locs hP hD hS => ?_)
  generalize upd (fun _ => (-1)) (Int32.toNatClampNeg 3) p0 = g_2 at hP hD
  have hP : va_P (dC, dI) vwCl [(h0, .inr (7, [.ref r0, .ref r1, .ref r2, .ref r3])), (r0, .inl (cy 0, 6, .inl g_1)), (r1, .inl (cy 0, 6, .inl g_2)), (r2, .inl (cy 0, 6, .inl (fun _ => 0))), (r3, .inl (cy 7, 6, .inr (.inr (.inr (.inr (fun i => if i < 6 then some (g i) else none)))))), ((g 3), .inl (cy 4, 60, .inr (.inl (fun _ => 0))))] H := hP
  have hD : va_D A [(h0, .inr (7, [.ref r0, .ref r1, .ref r2, .ref r3])), (r0, .inl (cy 0, 6, .inl g_1)), (r1, .inl (cy 0, 6, .inl g_2)), (r2, .inl (cy 0, 6, .inl (fun _ => 0))), (r3, .inl (cy 7, 6, .inr (.inr (.inr (.inr (fun i => if i < 6 then some (g i) else none)))))), ((g 3), .inl (cy 4, 60, .inr (.inl (fun _ => 0))))] := hD
  refine lv_aload_n hx hb dX7_holdRow_14 rfl (lv_at hl 0 rfl) ?_
  refine va_get (D := (dC, dI)) (ci := 7) (v := .ref r2) (C := RX7) (T := TX7) (N := 4) hx hb hts (fun _ h9 => List.mem_cons_of_mem _ (List.mem_append_right _ h9)) hown hK hP 0 rfl rfl 2 (by decide) (hts (.fieldLink RX7 18 "SeatsRound$Rows" "length" "[I") (List.mem_of_getElem? (i := 3) rfl)) (fun _ h9 => h9) rfl dX7_holdRow_15 ?_
  refine lv_iload_n hx hb dX7_holdRow_18 rfl (lv_at hl 1 rfl) ?_
  refine lv_iload_n hx hb dX7_holdRow_19 rfl (lv_at hl 3 rfl) ?_
  refine va_iast hx hb hK hP hD hS 3 0 rfl rfl (vp_in_nI (n := 3) (N := 6) (by decide) (by decide)) dX7_holdRow_20 (fun H locs hP hD hS => ?_)
  generalize upd (fun _ => 0) (Int32.toNatClampNeg 3) p1 = g_3 at hP hD
  have hP : va_P (dC, dI) vwCl [(h0, .inr (7, [.ref r0, .ref r1, .ref r2, .ref r3])), (r0, .inl (cy 0, 6, .inl g_1)), (r1, .inl (cy 0, 6, .inl g_2)), (r2, .inl (cy 0, 6, .inl g_3)), (r3, .inl (cy 7, 6, .inr (.inr (.inr (.inr (fun i => if i < 6 then some (g i) else none)))))), ((g 3), .inl (cy 4, 60, .inr (.inl (fun _ => 0))))] H := hP
  have hD : va_D A [(h0, .inr (7, [.ref r0, .ref r1, .ref r2, .ref r3])), (r0, .inl (cy 0, 6, .inl g_1)), (r1, .inl (cy 0, 6, .inl g_2)), (r2, .inl (cy 0, 6, .inl g_3)), (r3, .inl (cy 7, 6, .inr (.inr (.inr (.inr (fun i => if i < 6 then some (g i) else none)))))), ((g 3), .inl (cy 4, 60, .inr (.inl (fun _ => 0))))] := hD
  refine lv_aload_n hx hb dX7_holdRow_21 rfl (lv_at hl 0 rfl) ?_
  refine va_get (D := (dC, dI)) (ci := 7) (v := .ref r3) (C := RX7) (T := TX7) (N := 4) hx hb hts (fun _ h9 => List.mem_cons_of_mem _ (List.mem_append_right _ h9)) hown hK hP 0 rfl rfl 3 (by decide) (hts (.fieldLink RX7 23 "SeatsRound$Rows" "elements" "[[J") (List.mem_of_getElem? (i := 4) rfl)) (fun _ h9 => h9) rfl dX7_holdRow_22 ?_
  change W _ _ _ _ _ _ _ _ _ _ _ _ _ _ _ (F0 m 25 ls [.ref r3])
  refine lv_iload_n hx hb dX7_holdRow_25 rfl (lv_at hl 1 rfl) ?_
  refine vz_aldg hx hb hK hP 4 7 rfl rfl (vp_in_nI (n := 3) (N := 6) (by decide) (by decide)) rfl dX7_holdRow_26 ?_
  refine lv_lconst (v := 0) hx hb dX7_holdRow_27 (by decide) ?_
  have hPc := hP.sub (ws' := [((g 3), .inl (cy 4, 60, .inr (.inl (fun _ => 0))))]) [5] rfl
  have hDc := hD.sub (ws' := [((g 3), .inl (cy 4, 60, .inr (.inl (fun _ => 0))))]) [5] (by decide) rfl
  have hFc := va_free (wc := [((g 3), .inl (cy 4, 60, .inr (.inl (fun _ => 0))))]) hD hS hA [5] rfl
  refine va_callv (va_runS (As := [.ref (g 3), .long 0]) (rest := []) ⟨hx, hb, hml, hown, hts⟩ (c_fill_long l dC dI cy (g 3) 60 (fun _ => 0) 0 H.size (by decide)) (va_cwS 2 hts gX7_holdRow_J7_fill_d0a16 rfl rfl rfl (by decide +kernel) ⟨Nat.le_of_ble_eq_true rfl, Nat.le_of_ble_eq_true rfl⟩) (wp_S hK hN hPc hDc) rfl rfl hl.1 rfl (lv_room (Nat.le_of_ble_eq_true rfl)) dX7_holdRow_28 ⟨Nat.le_of_ble_eq_true rfl, Nat.le_of_ble_eq_true rfl⟩) hS (fun q _ h => hFc q h) hFc (fun u_4 t H1 locs ht hvm hw_4 hB hz1 hk1 hS => ?_)
  obtain ⟨hP1, hD1⟩ := hB
  rw [ht] at hP1
  obtain ⟨hP, hD⟩ := va_join (wr := [(h0, .inr (7, [.ref r0, .ref r1, .ref r2, .ref r3])), (r0, .inl (cy 0, 6, .inl g_1)), (r1, .inl (cy 0, 6, .inl g_2)), (r2, .inl (cy 0, 6, .inl g_3)), (r3, .inl (cy 7, 6, .inr (.inr (.inr (.inr (fun i => if i < 6 then some (g i) else none))))))]) (w1 := [((g 3), .inl (cy 4, 60, .inr (.inl (fun _ => 0))))]) hP hD [5] [0, 1, 2, 3, 4] rfl rfl (by decide) (by decide) hk1 hFc hP1 hD1
  generalize H1 = H at hP hS ⊢
  have hP : va_P (dC, dI) vwCl [(h0, .inr (7, [.ref r0, .ref r1, .ref r2, .ref r3])), (r0, .inl (cy 0, 6, .inl g_1)), (r1, .inl (cy 0, 6, .inl g_2)), (r2, .inl (cy 0, 6, .inl g_3)), (r3, .inl (cy 7, 6, .inr (.inr (.inr (.inr (fun i => if i < 6 then some (g i) else none)))))), ((g 3), .inl (cy 4, 60, .inr (.inl (fun _ => 0))))] H := hP
  have hD : va_D A [(h0, .inr (7, [.ref r0, .ref r1, .ref r2, .ref r3])), (r0, .inl (cy 0, 6, .inl g_1)), (r1, .inl (cy 0, 6, .inl g_2)), (r2, .inl (cy 0, 6, .inl g_3)), (r3, .inl (cy 7, 6, .inr (.inr (.inr (.inr (fun i => if i < 6 then some (g i) else none)))))), ((g 3), .inl (cy 4, 60, .inr (.inl (fun _ => 0))))] := hD
  exact W.vret hx hb hr (fun t ht hW => ⟨⟨(), rfl, trivial, trivial⟩, hS.F ht⟩) hS.2.2 dX7_holdRow_31
set_option maxHeartbeats 4000000 in
set_option maxRecDepth 100000 in
theorem c_RW_holdRow_4 (l : Launch) (dC : Nat → ClassId) (dI : Nat → Nat → Nat) (cy : Nat → ClassId) (h0 : Nat) (r0 : Nat) (r1 : Nat) (r2 : Nat) (r3 : Nat) (g : Nat → Nat) (p0 : Int32) (p1 : Int32) (sz : Nat)  : Met l yX7_holdRow wsX7_holdRow ({ frames := 2, cells := 0, slots := 0, locals := 47 }) (va_Pc [.ref h0, .int 4, .int p0, .int p1] (wPre (dC, dI) cy [(h0, .inr (7, [.ref r0, .ref r1, .ref r2, .ref r3])), (r0, .inl (cy 0, 6, .inl (fun _ => (-1)))), (r1, .inl (cy 0, 6, .inl (fun _ => (-1)))), (r2, .inl (cy 0, 6, .inl (fun _ => 0))), (r3, .inl (cy 7, 6, .inr (.inr (.inr (.inr (fun i => if i < 6 then some (g i) else none)))))), ((g 4), .inl (cy 4, 60, .inr (.inl (fun _ => 0))))] sz)) (va_Qv (fun (u : Unit) => True) (fun (u : Unit) t => True) (va_A [(h0, .inr (7, [.ref r0, .ref r1, .ref r2, .ref r3])), (r0, .inl (cy 0, 6, .inl (fun _ => (-1)))), (r1, .inl (cy 0, 6, .inl (fun _ => (-1)))), (r2, .inl (cy 0, 6, .inl (fun _ => 0))), (r3, .inl (cy 7, 6, .inr (.inr (.inr (.inr (fun i => if i < 6 then some (g i) else none)))))), ((g 4), .inl (cy 4, 60, .inr (.inl (fun _ => 0))))] sz)) 0 0 (va_A [(h0, .inr (7, [.ref r0, .ref r1, .ref r2, .ref r3])), (r0, .inl (cy 0, 6, .inl (fun _ => (-1)))), (r1, .inl (cy 0, 6, .inl (fun _ => (-1)))), (r2, .inl (cy 0, 6, .inl (fun _ => 0))), (r3, .inl (cy 7, 6, .inr (.inr (.inr (.inr (fun i => if i < 6 then some (g i) else none)))))), ((g 4), .inl (cy 4, 60, .inr (.inl (fun _ => 0))))] sz) := by
  refine Met.ofW (cc := cX7_holdRow) (maxL := 4) (ret := none) (by decide) rfl ?_
  intro p e s m args below meth c s₁ B hml hv
  obtain ⟨rfl, hsz, hP, hK, hD0, hN⟩ := hv
  have hx := B.exec
  have hb := B.bytes
  have hr := B.returns
  have hts := atoms_spec (ws := wsX7_holdRow) B.pre
  have hown : s.vm.findClass RX7 = some m.cls := findClass_of_methodNamed B.named
  have hlocks := B.notSynchronized
  subst hsz
  have hD := hD0.self (sz := s.heap.size)
  generalize hAe : va_A [(h0, .inr (7, [.ref r0, .ref r1, .ref r2, .ref r3])), (r0, .inl (cy 0, 6, .inl (fun _ => (-1)))), (r1, .inl (cy 0, 6, .inl (fun _ => (-1)))), (r2, .inl (cy 0, 6, .inl (fun _ => 0))), (r3, .inl (cy 7, 6, .inr (.inr (.inr (.inr (fun i => if i < 6 then some (g i) else none)))))), ((g 4), .inl (cy 4, 60, .inr (.inl (fun _ => 0))))] s.heap.size = A at hD ⊢
  have hA : ∀ q : Nat, s.heap.size ≤ q → A q := fun q h => by rw [← hAe]; exact Or.inr h
  have hS : va_S A s.heap s.heap [] := va_S.rf
  have hl := lv_entry ([.ref h0, .int 4, .int p0, .int p1]) (n := 4) (Nat.le_of_ble_eq_true rfl)
  rw [lg_entry_eq]
  generalize (lg_sl ([.ref h0, .int 4, .int p0, .int p1]) ++ List.replicate (4 - (lg_sl ([.ref h0, .int 4, .int p0, .int p1])).length) Slot.unset).toArray = ls at hl ⊢
  have hl : lv_has ls 4 [(0, .ref h0), (1, .int 4), (2, .int p0), (3, .int p1)] := hl
  refine lv_aload_n hx hb dX7_holdRow_0 rfl (lv_at hl 0 rfl) ?_
  refine va_get (D := (dC, dI)) (ci := 7) (v := .ref r0) (C := RX7) (T := TX7) (N := 4) hx hb hts (fun _ h9 => List.mem_cons_of_mem _ (List.mem_append_right _ h9)) hown hK hP 0 rfl rfl 0 (by decide) (hts (.fieldLink RX7 9 "SeatsRound$Rows" "keeper" "[I") (List.mem_of_getElem? (i := 1) rfl)) (fun _ h9 => h9) rfl dX7_holdRow_1 ?_
  refine lv_iload_n hx hb dX7_holdRow_4 rfl (lv_at hl 1 rfl) ?_
  refine lv_iconst (v := (-1)) hx hb dX7_holdRow_5 (by decide) ?_
  refine va_iast hx hb hK hP hD hS 1 0 rfl rfl (vp_in_nI (n := 4) (N := 6) (by decide) (by decide)) dX7_holdRow_6 (fun H locs hP hD hS => ?_)
  generalize upd (fun _ => (-1)) (Int32.toNatClampNeg 4) (-1) = g_1 at hP hD
  have hP : va_P (dC, dI) vwCl [(h0, .inr (7, [.ref r0, .ref r1, .ref r2, .ref r3])), (r0, .inl (cy 0, 6, .inl g_1)), (r1, .inl (cy 0, 6, .inl (fun _ => (-1)))), (r2, .inl (cy 0, 6, .inl (fun _ => 0))), (r3, .inl (cy 7, 6, .inr (.inr (.inr (.inr (fun i => if i < 6 then some (g i) else none)))))), ((g 4), .inl (cy 4, 60, .inr (.inl (fun _ => 0))))] H := hP
  have hD : va_D A [(h0, .inr (7, [.ref r0, .ref r1, .ref r2, .ref r3])), (r0, .inl (cy 0, 6, .inl g_1)), (r1, .inl (cy 0, 6, .inl (fun _ => (-1)))), (r2, .inl (cy 0, 6, .inl (fun _ => 0))), (r3, .inl (cy 7, 6, .inr (.inr (.inr (.inr (fun i => if i < 6 then some (g i) else none)))))), ((g 4), .inl (cy 4, 60, .inr (.inl (fun _ => 0))))] := hD
  refine lv_aload_n hx hb dX7_holdRow_7 rfl (lv_at hl 0 rfl) ?_
  refine va_get (D := (dC, dI)) (ci := 7) (v := .ref r1) (C := RX7) (T := TX7) (N := 4) hx hb hts (fun _ h9 => List.mem_cons_of_mem _ (List.mem_append_right _ h9)) hown hK hP 0 rfl rfl 1 (by decide) (hts (.fieldLink RX7 15 "SeatsRound$Rows" "sort" "[I") (List.mem_of_getElem? (i := 2) rfl)) (fun _ h9 => h9) rfl dX7_holdRow_8 ?_
  change W _ _ _ _ _ _ _ _ _ _ _ _ _ _ _ (F0 m 11 ls [.ref r1])
  refine lv_iload_n hx hb dX7_holdRow_11 rfl (lv_at hl 1 rfl) ?_
  refine lv_iload_n hx hb dX7_holdRow_12 rfl (lv_at hl 2 rfl) ?_
  refine va_iast hx hb hK hP hD hS 2 0 rfl rfl (vp_in_nI (n := 4) (N := 6) (by decide) (by decide)) dX7_holdRow_13 (fun H locs hP hD hS => ?_)
  generalize upd (fun _ => (-1)) (Int32.toNatClampNeg 4) p0 = g_2 at hP hD
  have hP : va_P (dC, dI) vwCl [(h0, .inr (7, [.ref r0, .ref r1, .ref r2, .ref r3])), (r0, .inl (cy 0, 6, .inl g_1)), (r1, .inl (cy 0, 6, .inl g_2)), (r2, .inl (cy 0, 6, .inl (fun _ => 0))), (r3, .inl (cy 7, 6, .inr (.inr (.inr (.inr (fun i => if i < 6 then some (g i) else none)))))), ((g 4), .inl (cy 4, 60, .inr (.inl (fun _ => 0))))] H := hP
  have hD : va_D A [(h0, .inr (7, [.ref r0, .ref r1, .ref r2, .ref r3])), (r0, .inl (cy 0, 6, .inl g_1)), (r1, .inl (cy 0, 6, .inl g_2)), (r2, .inl (cy 0, 6, .inl (fun _ => 0))), (r3, .inl (cy 7, 6, .inr (.inr (.inr (.inr (fun i => if i < 6 then some (g i) else none)))))), ((g 4), .inl (cy 4, 60, .inr (.inl (fun _ => 0))))] := hD
  refine lv_aload_n hx hb dX7_holdRow_14 rfl (lv_at hl 0 rfl) ?_
  refine va_get (D := (dC, dI)) (ci := 7) (v := .ref r2) (C := RX7) (T := TX7) (N := 4) hx hb hts (fun _ h9 => List.mem_cons_of_mem _ (List.mem_append_right _ h9)) hown hK hP 0 rfl rfl 2 (by decide) (hts (.fieldLink RX7 18 "SeatsRound$Rows" "length" "[I") (List.mem_of_getElem? (i := 3) rfl)) (fun _ h9 => h9) rfl dX7_holdRow_15 ?_
  refine lv_iload_n hx hb dX7_holdRow_18 rfl (lv_at hl 1 rfl) ?_
  refine lv_iload_n hx hb dX7_holdRow_19 rfl (lv_at hl 3 rfl) ?_
  refine va_iast hx hb hK hP hD hS 3 0 rfl rfl (vp_in_nI (n := 4) (N := 6) (by decide) (by decide)) dX7_holdRow_20 (fun H locs hP hD hS => ?_)
  generalize upd (fun _ => 0) (Int32.toNatClampNeg 4) p1 = g_3 at hP hD
  have hP : va_P (dC, dI) vwCl [(h0, .inr (7, [.ref r0, .ref r1, .ref r2, .ref r3])), (r0, .inl (cy 0, 6, .inl g_1)), (r1, .inl (cy 0, 6, .inl g_2)), (r2, .inl (cy 0, 6, .inl g_3)), (r3, .inl (cy 7, 6, .inr (.inr (.inr (.inr (fun i => if i < 6 then some (g i) else none)))))), ((g 4), .inl (cy 4, 60, .inr (.inl (fun _ => 0))))] H := hP
  have hD : va_D A [(h0, .inr (7, [.ref r0, .ref r1, .ref r2, .ref r3])), (r0, .inl (cy 0, 6, .inl g_1)), (r1, .inl (cy 0, 6, .inl g_2)), (r2, .inl (cy 0, 6, .inl g_3)), (r3, .inl (cy 7, 6, .inr (.inr (.inr (.inr (fun i => if i < 6 then some (g i) else none)))))), ((g 4), .inl (cy 4, 60, .inr (.inl (fun _ => 0))))] := hD
  change W _ _ _ _ _ _ _ _ _ _ _ _ _ _ _ (F0 m 21 ls [])
  refine lv_aload_n hx hb dX7_holdRow_21 rfl (lv_at hl 0 rfl) ?_
  refine va_get (D := (dC, dI)) (ci := 7) (v := .ref r3) (C := RX7) (T := TX7) (N := 4) hx hb hts (fun _ h9 => List.mem_cons_of_mem _ (List.mem_append_right _ h9)) hown hK hP 0 rfl rfl 3 (by decide) (hts (.fieldLink RX7 23 "SeatsRound$Rows" "elements" "[[J") (List.mem_of_getElem? (i := 4) rfl)) (fun _ h9 => h9) rfl dX7_holdRow_22 ?_
  refine lv_iload_n hx hb dX7_holdRow_25 rfl (lv_at hl 1 rfl) ?_
  refine vz_aldg hx hb hK hP 4 7 rfl rfl (vp_in_nI (n := 4) (N := 6) (by decide) (by decide)) rfl dX7_holdRow_26 ?_
  refine lv_lconst (v := 0) hx hb dX7_holdRow_27 (by decide) ?_
  have hPc := hP.sub (ws' := [((g 4), .inl (cy 4, 60, .inr (.inl (fun _ => 0))))]) [5] rfl
  have hDc := hD.sub (ws' := [((g 4), .inl (cy 4, 60, .inr (.inl (fun _ => 0))))]) [5] (by decide) rfl
  have hFc := va_free (wc := [((g 4), .inl (cy 4, 60, .inr (.inl (fun _ => 0))))]) hD hS hA [5] rfl
  refine va_callv (va_runS (As := [.ref (g 4), .long 0]) (rest := []) ⟨hx, hb, hml, hown, hts⟩ (c_fill_long l dC dI cy (g 4) 60 (fun _ => 0) 0 H.size (by decide)) (va_cwS 2 hts gX7_holdRow_J7_fill_d0a16 rfl rfl rfl (by decide +kernel) ⟨Nat.le_of_ble_eq_true rfl, Nat.le_of_ble_eq_true rfl⟩) (wp_S hK hN hPc hDc) rfl rfl hl.1 rfl (lv_room (Nat.le_of_ble_eq_true rfl)) dX7_holdRow_28 ⟨Nat.le_of_ble_eq_true rfl, Nat.le_of_ble_eq_true rfl⟩) hS (fun q _ h => hFc q h) hFc (fun u_4 t H1 locs ht hvm hw_4 hB hz1 hk1 hS => ?_)
  obtain ⟨hP1, hD1⟩ := hB
  rw [ht] at hP1
  obtain ⟨hP, hD⟩ := va_join (wr := [(h0, .inr (7, [.ref r0, .ref r1, .ref r2, .ref r3])), (r0, .inl (cy 0, 6, .inl g_1)), (r1, .inl (cy 0, 6, .inl g_2)), (r2, .inl (cy 0, 6, .inl g_3)), (r3, .inl (cy 7, 6, .inr (.inr (.inr (.inr (fun i => if i < 6 then some (g i) else none))))))]) (w1 := [((g 4), .inl (cy 4, 60, .inr (.inl (fun _ => 0))))]) hP hD [5] [0, 1, 2, 3, 4] rfl rfl (by decide) (by decide) hk1 hFc hP1 hD1
  generalize H1 = H at hP hS ⊢
  have hP : va_P (dC, dI) vwCl [(h0, .inr (7, [.ref r0, .ref r1, .ref r2, .ref r3])), (r0, .inl (cy 0, 6, .inl g_1)), (r1, .inl (cy 0, 6, .inl g_2)), (r2, .inl (cy 0, 6, .inl g_3)), (r3, .inl (cy 7, 6, .inr (.inr (.inr (.inr (fun i => if i < 6 then some (g i) else none)))))), ((g 4), .inl (cy 4, 60, .inr (.inl (fun _ => 0))))] H := hP
  have hD : va_D A [(h0, .inr (7, [.ref r0, .ref r1, .ref r2, .ref r3])), (r0, .inl (cy 0, 6, .inl g_1)), (r1, .inl (cy 0, 6, .inl g_2)), (r2, .inl (cy 0, 6, .inl g_3)), (r3, .inl (cy 7, 6, .inr (.inr (.inr (.inr (fun i => if i < 6 then some (g i) else none)))))), ((g 4), .inl (cy 4, 60, .inr (.inl (fun _ => 0))))] := hD
  exact W.vret hx hb hr (fun t ht hW => ⟨⟨(), rfl, trivial, trivial⟩, hS.F ht⟩) hS.2.2 dX7_holdRow_31
set_option maxHeartbeats 4000000 in
set_option maxRecDepth 100000 in
theorem c_RW_holdRow_5 (l : Launch) (dC : Nat → ClassId) (dI : Nat → Nat → Nat) (cy : Nat → ClassId) (h0 : Nat) (r0 : Nat) (r1 : Nat) (r2 : Nat) (r3 : Nat) (g : Nat → Nat) (p0 : Int32) (p1 : Int32) (sz : Nat)  : Met l yX7_holdRow wsX7_holdRow ({ frames := 2, cells := 0, slots := 0, locals := 47 }) (va_Pc [.ref h0, .int 5, .int p0, .int p1] (wPre (dC, dI) cy [(h0, .inr (7, [.ref r0, .ref r1, .ref r2, .ref r3])), (r0, .inl (cy 0, 6, .inl (fun _ => (-1)))), (r1, .inl (cy 0, 6, .inl (fun _ => (-1)))), (r2, .inl (cy 0, 6, .inl (fun _ => 0))), (r3, .inl (cy 7, 6, .inr (.inr (.inr (.inr (fun i => if i < 6 then some (g i) else none)))))), ((g 5), .inl (cy 4, 60, .inr (.inl (fun _ => 0))))] sz)) (va_Qv (fun (u : Unit) => True) (fun (u : Unit) t => True) (va_A [(h0, .inr (7, [.ref r0, .ref r1, .ref r2, .ref r3])), (r0, .inl (cy 0, 6, .inl (fun _ => (-1)))), (r1, .inl (cy 0, 6, .inl (fun _ => (-1)))), (r2, .inl (cy 0, 6, .inl (fun _ => 0))), (r3, .inl (cy 7, 6, .inr (.inr (.inr (.inr (fun i => if i < 6 then some (g i) else none)))))), ((g 5), .inl (cy 4, 60, .inr (.inl (fun _ => 0))))] sz)) 0 0 (va_A [(h0, .inr (7, [.ref r0, .ref r1, .ref r2, .ref r3])), (r0, .inl (cy 0, 6, .inl (fun _ => (-1)))), (r1, .inl (cy 0, 6, .inl (fun _ => (-1)))), (r2, .inl (cy 0, 6, .inl (fun _ => 0))), (r3, .inl (cy 7, 6, .inr (.inr (.inr (.inr (fun i => if i < 6 then some (g i) else none)))))), ((g 5), .inl (cy 4, 60, .inr (.inl (fun _ => 0))))] sz) := by
  refine Met.ofW (cc := cX7_holdRow) (maxL := 4) (ret := none) (by decide) rfl ?_
  intro p e s m args below meth c s₁ B hml hv
  obtain ⟨rfl, hsz, hP, hK, hD0, hN⟩ := hv
  have hx := B.exec
  have hb := B.bytes
  have hr := B.returns
  have hts := atoms_spec (ws := wsX7_holdRow) B.pre
  have hown : s.vm.findClass RX7 = some m.cls := findClass_of_methodNamed B.named
  have hlocks := B.notSynchronized
  subst hsz
  have hD := hD0.self (sz := s.heap.size)
  generalize hAe : va_A [(h0, .inr (7, [.ref r0, .ref r1, .ref r2, .ref r3])), (r0, .inl (cy 0, 6, .inl (fun _ => (-1)))), (r1, .inl (cy 0, 6, .inl (fun _ => (-1)))), (r2, .inl (cy 0, 6, .inl (fun _ => 0))), (r3, .inl (cy 7, 6, .inr (.inr (.inr (.inr (fun i => if i < 6 then some (g i) else none)))))), ((g 5), .inl (cy 4, 60, .inr (.inl (fun _ => 0))))] s.heap.size = A at hD ⊢
  have hA : ∀ q : Nat, s.heap.size ≤ q → A q := fun q h => by rw [← hAe]; exact Or.inr h
  have hS : va_S A s.heap s.heap [] := va_S.rf
  have hl := lv_entry ([.ref h0, .int 5, .int p0, .int p1]) (n := 4) (Nat.le_of_ble_eq_true rfl)
  rw [lg_entry_eq]
  generalize (lg_sl ([.ref h0, .int 5, .int p0, .int p1]) ++ List.replicate (4 - (lg_sl ([.ref h0, .int 5, .int p0, .int p1])).length) Slot.unset).toArray = ls at hl ⊢
  have hl : lv_has ls 4 [(0, .ref h0), (1, .int 5), (2, .int p0), (3, .int p1)] := hl
  refine lv_aload_n hx hb dX7_holdRow_0 rfl (lv_at hl 0 rfl) ?_
  refine va_get (D := (dC, dI)) (ci := 7) (v := .ref r0) (C := RX7) (T := TX7) (N := 4) hx hb hts (fun _ h9 => List.mem_cons_of_mem _ (List.mem_append_right _ h9)) hown hK hP 0 rfl rfl 0 (by decide) (hts (.fieldLink RX7 9 "SeatsRound$Rows" "keeper" "[I") (List.mem_of_getElem? (i := 1) rfl)) (fun _ h9 => h9) rfl dX7_holdRow_1 ?_
  refine lv_iload_n hx hb dX7_holdRow_4 rfl (lv_at hl 1 rfl) ?_
  refine lv_iconst (v := (-1)) hx hb dX7_holdRow_5 (by decide) ?_
  refine va_iast hx hb hK hP hD hS 1 0 rfl rfl (vp_in_nI (n := 5) (N := 6) (by decide) (by decide)) dX7_holdRow_6 (fun H locs hP hD hS => ?_)
  generalize upd (fun _ => (-1)) (Int32.toNatClampNeg 5) (-1) = g_1 at hP hD
  have hP : va_P (dC, dI) vwCl [(h0, .inr (7, [.ref r0, .ref r1, .ref r2, .ref r3])), (r0, .inl (cy 0, 6, .inl g_1)), (r1, .inl (cy 0, 6, .inl (fun _ => (-1)))), (r2, .inl (cy 0, 6, .inl (fun _ => 0))), (r3, .inl (cy 7, 6, .inr (.inr (.inr (.inr (fun i => if i < 6 then some (g i) else none)))))), ((g 5), .inl (cy 4, 60, .inr (.inl (fun _ => 0))))] H := hP
  have hD : va_D A [(h0, .inr (7, [.ref r0, .ref r1, .ref r2, .ref r3])), (r0, .inl (cy 0, 6, .inl g_1)), (r1, .inl (cy 0, 6, .inl (fun _ => (-1)))), (r2, .inl (cy 0, 6, .inl (fun _ => 0))), (r3, .inl (cy 7, 6, .inr (.inr (.inr (.inr (fun i => if i < 6 then some (g i) else none)))))), ((g 5), .inl (cy 4, 60, .inr (.inl (fun _ => 0))))] := hD
  change W _ _ _ _ _ _ _ _ _ _ _ _ _ _ _ (F0 m 7 ls [])
  refine lv_aload_n hx hb dX7_holdRow_7 rfl (lv_at hl 0 rfl) ?_
  refine va_get (D := (dC, dI)) (ci := 7) (v := .ref r1) (C := RX7) (T := TX7) (N := 4) hx hb hts (fun _ h9 => List.mem_cons_of_mem _ (List.mem_append_right _ h9)) hown hK hP 0 rfl rfl 1 (by decide) (hts (.fieldLink RX7 15 "SeatsRound$Rows" "sort" "[I") (List.mem_of_getElem? (i := 2) rfl)) (fun _ h9 => h9) rfl dX7_holdRow_8 ?_
  refine lv_iload_n hx hb dX7_holdRow_11 rfl (lv_at hl 1 rfl) ?_
  refine lv_iload_n hx hb dX7_holdRow_12 rfl (lv_at hl 2 rfl) ?_
  refine va_iast hx hb hK hP hD hS 2 0 rfl rfl (vp_in_nI (n := 5) (N := 6) (by decide) (by decide)) dX7_holdRow_13 (fun H locs hP hD hS => ?_)
  generalize upd (fun _ => (-1)) (Int32.toNatClampNeg 5) p0 = g_2 at hP hD
  have hP : va_P (dC, dI) vwCl [(h0, .inr (7, [.ref r0, .ref r1, .ref r2, .ref r3])), (r0, .inl (cy 0, 6, .inl g_1)), (r1, .inl (cy 0, 6, .inl g_2)), (r2, .inl (cy 0, 6, .inl (fun _ => 0))), (r3, .inl (cy 7, 6, .inr (.inr (.inr (.inr (fun i => if i < 6 then some (g i) else none)))))), ((g 5), .inl (cy 4, 60, .inr (.inl (fun _ => 0))))] H := hP
  have hD : va_D A [(h0, .inr (7, [.ref r0, .ref r1, .ref r2, .ref r3])), (r0, .inl (cy 0, 6, .inl g_1)), (r1, .inl (cy 0, 6, .inl g_2)), (r2, .inl (cy 0, 6, .inl (fun _ => 0))), (r3, .inl (cy 7, 6, .inr (.inr (.inr (.inr (fun i => if i < 6 then some (g i) else none)))))), ((g 5), .inl (cy 4, 60, .inr (.inl (fun _ => 0))))] := hD
  refine lv_aload_n hx hb dX7_holdRow_14 rfl (lv_at hl 0 rfl) ?_
  refine va_get (D := (dC, dI)) (ci := 7) (v := .ref r2) (C := RX7) (T := TX7) (N := 4) hx hb hts (fun _ h9 => List.mem_cons_of_mem _ (List.mem_append_right _ h9)) hown hK hP 0 rfl rfl 2 (by decide) (hts (.fieldLink RX7 18 "SeatsRound$Rows" "length" "[I") (List.mem_of_getElem? (i := 3) rfl)) (fun _ h9 => h9) rfl dX7_holdRow_15 ?_
  refine lv_iload_n hx hb dX7_holdRow_18 rfl (lv_at hl 1 rfl) ?_
  change W _ _ _ _ _ _ _ _ _ _ _ _ _ _ _ (F0 m 19 ls [.int 5, .ref r2])
  refine lv_iload_n hx hb dX7_holdRow_19 rfl (lv_at hl 3 rfl) ?_
  refine va_iast hx hb hK hP hD hS 3 0 rfl rfl (vp_in_nI (n := 5) (N := 6) (by decide) (by decide)) dX7_holdRow_20 (fun H locs hP hD hS => ?_)
  generalize upd (fun _ => 0) (Int32.toNatClampNeg 5) p1 = g_3 at hP hD
  have hP : va_P (dC, dI) vwCl [(h0, .inr (7, [.ref r0, .ref r1, .ref r2, .ref r3])), (r0, .inl (cy 0, 6, .inl g_1)), (r1, .inl (cy 0, 6, .inl g_2)), (r2, .inl (cy 0, 6, .inl g_3)), (r3, .inl (cy 7, 6, .inr (.inr (.inr (.inr (fun i => if i < 6 then some (g i) else none)))))), ((g 5), .inl (cy 4, 60, .inr (.inl (fun _ => 0))))] H := hP
  have hD : va_D A [(h0, .inr (7, [.ref r0, .ref r1, .ref r2, .ref r3])), (r0, .inl (cy 0, 6, .inl g_1)), (r1, .inl (cy 0, 6, .inl g_2)), (r2, .inl (cy 0, 6, .inl g_3)), (r3, .inl (cy 7, 6, .inr (.inr (.inr (.inr (fun i => if i < 6 then some (g i) else none)))))), ((g 5), .inl (cy 4, 60, .inr (.inl (fun _ => 0))))] := hD
  refine lv_aload_n hx hb dX7_holdRow_21 rfl (lv_at hl 0 rfl) ?_
  refine va_get (D := (dC, dI)) (ci := 7) (v := .ref r3) (C := RX7) (T := TX7) (N := 4) hx hb hts (fun _ h9 => List.mem_cons_of_mem _ (List.mem_append_right _ h9)) hown hK hP 0 rfl rfl 3 (by decide) (hts (.fieldLink RX7 23 "SeatsRound$Rows" "elements" "[[J") (List.mem_of_getElem? (i := 4) rfl)) (fun _ h9 => h9) rfl dX7_holdRow_22 ?_
  refine lv_iload_n hx hb dX7_holdRow_25 rfl (lv_at hl 1 rfl) ?_
  refine vz_aldg hx hb hK hP 4 7 rfl rfl (vp_in_nI (n := 5) (N := 6) (by decide) (by decide)) rfl dX7_holdRow_26 ?_
  refine lv_lconst (v := 0) hx hb dX7_holdRow_27 (by decide) ?_
  have hPc := hP.sub (ws' := [((g 5), .inl (cy 4, 60, .inr (.inl (fun _ => 0))))]) [5] rfl
  have hDc := hD.sub (ws' := [((g 5), .inl (cy 4, 60, .inr (.inl (fun _ => 0))))]) [5] (by decide) rfl
  have hFc := va_free (wc := [((g 5), .inl (cy 4, 60, .inr (.inl (fun _ => 0))))]) hD hS hA [5] rfl
  refine va_callv (va_runS (As := [.ref (g 5), .long 0]) (rest := []) ⟨hx, hb, hml, hown, hts⟩ (c_fill_long l dC dI cy (g 5) 60 (fun _ => 0) 0 H.size (by decide)) (va_cwS 2 hts gX7_holdRow_J7_fill_d0a16 rfl rfl rfl (by decide +kernel) ⟨Nat.le_of_ble_eq_true rfl, Nat.le_of_ble_eq_true rfl⟩) (wp_S hK hN hPc hDc) rfl rfl hl.1 rfl (lv_room (Nat.le_of_ble_eq_true rfl)) dX7_holdRow_28 ⟨Nat.le_of_ble_eq_true rfl, Nat.le_of_ble_eq_true rfl⟩) hS (fun q _ h => hFc q h) hFc (fun u_4 t H1 locs ht hvm hw_4 hB hz1 hk1 hS => ?_)
  obtain ⟨hP1, hD1⟩ := hB
  rw [ht] at hP1
  obtain ⟨hP, hD⟩ := va_join (wr := [(h0, .inr (7, [.ref r0, .ref r1, .ref r2, .ref r3])), (r0, .inl (cy 0, 6, .inl g_1)), (r1, .inl (cy 0, 6, .inl g_2)), (r2, .inl (cy 0, 6, .inl g_3)), (r3, .inl (cy 7, 6, .inr (.inr (.inr (.inr (fun i => if i < 6 then some (g i) else none))))))]) (w1 := [((g 5), .inl (cy 4, 60, .inr (.inl (fun _ => 0))))]) hP hD [5] [0, 1, 2, 3, 4] rfl rfl (by decide) (by decide) hk1 hFc hP1 hD1
  generalize H1 = H at hP hS ⊢
  have hP : va_P (dC, dI) vwCl [(h0, .inr (7, [.ref r0, .ref r1, .ref r2, .ref r3])), (r0, .inl (cy 0, 6, .inl g_1)), (r1, .inl (cy 0, 6, .inl g_2)), (r2, .inl (cy 0, 6, .inl g_3)), (r3, .inl (cy 7, 6, .inr (.inr (.inr (.inr (fun i => if i < 6 then some (g i) else none)))))), ((g 5), .inl (cy 4, 60, .inr (.inl (fun _ => 0))))] H := hP
  have hD : va_D A [(h0, .inr (7, [.ref r0, .ref r1, .ref r2, .ref r3])), (r0, .inl (cy 0, 6, .inl g_1)), (r1, .inl (cy 0, 6, .inl g_2)), (r2, .inl (cy 0, 6, .inl g_3)), (r3, .inl (cy 7, 6, .inr (.inr (.inr (.inr (fun i => if i < 6 then some (g i) else none)))))), ((g 5), .inl (cy 4, 60, .inr (.inl (fun _ => 0))))] := hD
  change W _ _ _ _ _ _ _ _ _ _ _ _ _ _ _ (F0 m 31 ls [])
  exact W.vret hx hb hr (fun t ht hW => ⟨⟨(), rfl, trivial, trivial⟩, hS.F ht⟩) hS.2.2 dX7_holdRow_31
set_option maxHeartbeats 4000000 in
set_option maxRecDepth 100000 in
theorem c_PC_allCopies (l : Launch) (dC : Nat → ClassId) (dI : Nat → Nat → Nat) (cy : Nat → ClassId) (h0 : Nat) (e0 : Nat) (e1 : Nat) (e2 : Nat) (e3 : Nat) (e4 : Nat) (e5 : Nat) (e6 : Nat) (e7 : Nat) (a2 : Nat) (a1 : Nat) (a4 : Nat) (k0 : Nat) (k1 : Nat) (k2 : Nat) (k3 : Nat) (k4 : Nat) (sz : Nat)  : Met l yX6_allCopies wsX6_allCopies ({ frames := 1, cells := 0, slots := 0, locals := 23 }) (va_Pc [.ref h0] (wPre (dC, dI) cy [(h0, .inr (6, [.ref e0, .ref e1, .ref e2, .ref e3, .ref e4, .ref e5, .ref e6, .ref e7, .int 0, .ref a2, .ref a1, .ref a4])), (a2, .inr (2, [.ref k0, .ref k1, .ref k2, .ref k3, .ref k4, .int 0]))] sz)) (vp_Si (fun r => r = 0)) 0 0 (fun _ => False) := by
  refine Met.ofW (cc := cX6_allCopies) (maxL := 3) (ret := (some .int)) (by decide) rfl ?_
  intro p e s m args below meth c s₁ B hml hv
  obtain ⟨rfl, hsz, hP, hK, hD0, hN⟩ := hv
  have hx := B.exec
  have hb := B.bytes
  have hr := B.returns
  have hts := atoms_spec (ws := wsX6_allCopies) B.pre
  have hown : s.vm.findClass RX6 = some m.cls := findClass_of_methodNamed B.named
  have hlocks := B.notSynchronized
  subst hsz
  have hl := lv_entry ([.ref h0]) (n := 3) (Nat.le_of_ble_eq_true rfl)
  rw [lg_entry_eq]
  generalize (lg_sl ([.ref h0]) ++ List.replicate (3 - (lg_sl ([.ref h0])).length) Slot.unset).toArray = ls at hl ⊢
  have hl : lv_has ls 3 [(0, .ref h0)] := hl
  refine lv_iconst (v := 0) hx hb dX6_allCopies_0 (by decide) ?_
  refine lv_istore_n (lv' := [(1, .int 0), (0, .ref h0)]) hx hb dX6_allCopies_1 rfl hl (by decide) rfl (fun ls hl => ?_)
  refine lv_iconst (v := 0) hx hb dX6_allCopies_2 (by decide) ?_
  refine lv_istore_n (lv' := [(2, .int 0), (1, .int 0), (0, .ref h0)]) hx hb dX6_allCopies_3 rfl hl (by decide) rfl (fun ls hl => ?_)
  refine lv_iload_n hx hb dX6_allCopies_4 rfl (lv_at hl 0 rfl) ?_
  refine lv_aload_n hx hb dX6_allCopies_5 rfl (lv_at hl 2 rfl) ?_
  change W _ _ _ _ _ _ _ _ _ _ _ _ _ _ _ (F0 m 6 ls [.ref h0, .int 0])
  refine va_get (D := (dC, dI)) (ci := 6) (v := .ref a2) (C := RX6) (T := TX6) (N := 12) hx hb hts (fun _ h9 => List.mem_cons_of_mem _ (List.mem_append_left _ (List.mem_append_right _ h9))) hown hK hP 0 rfl rfl 9 (by decide) (hts (.fieldLink RX6 42 "SeatsRound$Parcels" "keepers" "LSeatsRound$Keepers;") (List.mem_of_getElem? (i := 1) rfl)) (fun _ h9 => h9) rfl dX6_allCopies_6 ?_
  refine va_get (D := (dC, dI)) (ci := 2) (v := .int 0) (C := RX2) (T := TX2) (N := 6) hx hb hts (fun _ h9 => List.mem_cons_of_mem _ (List.mem_append_right _ h9)) hown hK hP 1 rfl rfl 5 (by decide) (hts (.fieldLink RX6 120 "SeatsRound$Keepers" "count" "I") (List.mem_of_getElem? (i := 2) rfl)) (fun _ h9 => h9) rfl dX6_allCopies_9 ?_
  refine lv_icmp_ge (tgt := 29) hx hb dX6_allCopies_12 (by decide) (fun _ => ?_) (fun c_1 => absurd c_1 (by decide))
  refine lv_iload_n hx hb dX6_allCopies_29 rfl (lv_at hl 1 rfl) ?_
  exact W.iret (v := 0) hx hb hr (fun t ht hW => ⟨0, rfl, (by first | rfl | (exfalso; omega)), ht⟩) (fun q h => by cases h) dX6_allCopies_30
set_option maxHeartbeats 4000000 in
set_option maxRecDepth 100000 in
theorem c_PC_allKept (l : Launch) (dC : Nat → ClassId) (dI : Nat → Nat → Nat) (cy : Nat → ClassId) (h0 : Nat) (e0 : Nat) (e1 : Nat) (e2 : Nat) (e3 : Nat) (e4 : Nat) (e5 : Nat) (e6 : Nat) (e7 : Nat) (a2 : Nat) (a1 : Nat) (a4 : Nat) (k0 : Nat) (k1 : Nat) (k2 : Nat) (k3 : Nat) (k4 : Nat) (sz : Nat)  : Met l yX6_allKept wsX6_allKept ({ frames := 1, cells := 0, slots := 0, locals := 23 }) (va_Pc [.ref h0] (wPre (dC, dI) cy [(h0, .inr (6, [.ref e0, .ref e1, .ref e2, .ref e3, .ref e4, .ref e5, .ref e6, .ref e7, .int 0, .ref a2, .ref a1, .ref a4])), (a2, .inr (2, [.ref k0, .ref k1, .ref k2, .ref k3, .ref k4, .int 0]))] sz)) (vp_Si (fun r => r = 0)) 0 0 (fun _ => False) := by
  refine Met.ofW (cc := cX6_allKept) (maxL := 3) (ret := (some .int)) (by decide) rfl ?_
  intro p e s m args below meth c s₁ B hml hv
  obtain ⟨rfl, hsz, hP, hK, hD0, hN⟩ := hv
  have hx := B.exec
  have hb := B.bytes
  have hr := B.returns
  have hts := atoms_spec (ws := wsX6_allKept) B.pre
  have hown : s.vm.findClass RX6 = some m.cls := findClass_of_methodNamed B.named
  have hlocks := B.notSynchronized
  subst hsz
  have hl := lv_entry ([.ref h0]) (n := 3) (Nat.le_of_ble_eq_true rfl)
  rw [lg_entry_eq]
  generalize (lg_sl ([.ref h0]) ++ List.replicate (3 - (lg_sl ([.ref h0])).length) Slot.unset).toArray = ls at hl ⊢
  have hl : lv_has ls 3 [(0, .ref h0)] := hl
  refine lv_iconst (v := 0) hx hb dX6_allKept_0 (by decide) ?_
  refine lv_istore_n (lv' := [(1, .int 0), (0, .ref h0)]) hx hb dX6_allKept_1 rfl hl (by decide) rfl (fun ls hl => ?_)
  change W _ _ _ _ _ _ _ _ _ _ _ _ _ _ _ (F0 m 2 ls [])
  refine lv_iconst (v := 0) hx hb dX6_allKept_2 (by decide) ?_
  refine lv_istore_n (lv' := [(2, .int 0), (1, .int 0), (0, .ref h0)]) hx hb dX6_allKept_3 rfl hl (by decide) rfl (fun ls hl => ?_)
  refine lv_iload_n hx hb dX6_allKept_4 rfl (lv_at hl 0 rfl) ?_
  refine lv_aload_n hx hb dX6_allKept_5 rfl (lv_at hl 2 rfl) ?_
  refine va_get (D := (dC, dI)) (ci := 6) (v := .ref a2) (C := RX6) (T := TX6) (N := 12) hx hb hts (fun _ h9 => List.mem_cons_of_mem _ (List.mem_append_left _ (List.mem_append_right _ h9))) hown hK hP 0 rfl rfl 9 (by decide) (hts (.fieldLink RX6 42 "SeatsRound$Parcels" "keepers" "LSeatsRound$Keepers;") (List.mem_of_getElem? (i := 1) rfl)) (fun _ h9 => h9) rfl dX6_allKept_6 ?_
  refine va_get (D := (dC, dI)) (ci := 2) (v := .int 0) (C := RX2) (T := TX2) (N := 6) hx hb hts (fun _ h9 => List.mem_cons_of_mem _ (List.mem_append_right _ h9)) hown hK hP 1 rfl rfl 5 (by decide) (hts (.fieldLink RX6 120 "SeatsRound$Keepers" "count" "I") (List.mem_of_getElem? (i := 2) rfl)) (fun _ h9 => h9) rfl dX6_allKept_9 ?_
  refine lv_icmp_ge (tgt := 29) hx hb dX6_allKept_12 (by decide) (fun _ => ?_) (fun c_1 => absurd c_1 (by decide))
  refine lv_iload_n hx hb dX6_allKept_29 rfl (lv_at hl 1 rfl) ?_
  change W _ _ _ _ _ _ _ _ _ _ _ _ _ _ _ (F0 m 30 ls [.int 0])
  exact W.iret (v := 0) hx hb hr (fun t ht hW => ⟨0, rfl, (by first | rfl | (exfalso; omega)), ht⟩) (fun q h => by cases h) dX6_allKept_30
