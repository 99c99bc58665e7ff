set_option maxHeartbeats 4000000 in
set_option maxRecDepth 100000 in
theorem tX12_in (l : Launch) (dC : Nat → ClassId) (dI : Nat → Nat → Nat) (cy : Nat → ClassId) (ad : Nat → Nat) (σ : S2) (a0 : Int32) (a1 : Int32) (a2 : Int32) (sz : Nat) (r0 : Int32) (h : fX12_in σ a0 a1 a2 = some r0) : Met l yX12_in wsX12_in ({ frames := 1, cells := 0, slots := 0, locals := 23 }) (va_Pc [.int a0, .int a1, .int a2] (wPre (dC, dI) cy (wG (cM cy ad) ad 40 σ) sz)) (va_Qi (fun (r : Int32) (_ : Unit) => r = r0) (fun (_ : Unit) t => wAt (dC, dI) (va_A (wG (cM cy ad) ad 40 σ) sz) (wG (cM cy ad) ad 40 σ) t) (va_A (wG (cM cy ad) ad 40 σ) sz)) 0 0 (va_A (wG (cM cy ad) ad 40 σ) sz) := by
  refine Met.ofW (cc := cX12_in) (maxL := 3) (ret := (some .boolean)) (by decide) rfl ?_
  intro p e s m args below meth c s₁ B hml hv
  obtain ⟨rfl, hsz, hP, hK, hD0, hN⟩ := hv
  have hx := B.exec
  have hb := B.bytes
  have hr := B.returns
  have hts := atoms_spec (ws := wsX12_in) B.pre
  have hown : s.vm.findClass RX12 = some m.cls := findClass_of_methodNamed B.named
  have hlocks := B.notSynchronized
  subst hsz
  have hD := hD0.self (sz := s.heap.size)
  generalize hAe : va_A (wG (cM cy ad) ad 40 σ) s.heap.size = A at hD ⊢
  have hA : ∀ q : Nat, s.heap.size ≤ q → A q := fun q h => by rw [← hAe]; exact Or.inr h
  have hS : va_S A s.heap s.heap [] := va_S.rf
  have hl := lv_entry ([.int a0, .int a1, .int a2]) (n := 3) (Nat.le_of_ble_eq_true rfl)
  rw [lg_entry_eq]
  generalize (lg_sl ([.int a0, .int a1, .int a2]) ++ List.replicate (3 - (lg_sl ([.int a0, .int a1, .int a2])).length) Slot.unset).toArray = ls at hl ⊢
  have hl : lv_has ls 3 [(0, .int a0), (1, .int a1), (2, .int a2)] := hl
  unfold fX12_in at h
  clear hAe hD0
  suffices HH : ∀ (H : Heap) (locs : List Loc) (ls : Array Slot), fX12_in_0 σ a0 a1 a2 = some r0 → va_P (dC, dI) vwCl (wG (cM cy ad) ad 40 σ) H → va_D A (wG (cM cy ad) ad 40 σ) → va_S A s.heap H locs → lv_has ls 3 [(0, .int a0), (1, .int a1), (2, .int a2)] → W p l e (headSpec wsX12_in ({ frames := 1, cells := 0, slots := 0, locals := 23 })).room s m (#[.int a0, .int a1, .int a2]) below meth c H locs 0 0 (MQ below (va_Qi (fun (r : Int32) (_ : Unit) => r = r0) (fun (_ : Unit) t => wAt (dC, dI) A (wG (cM cy ad) ad 40 σ) t) A) (#[.int a0, .int a1, .int a2]) s 0 0 A) (F0 m 0 ls []) from HH s.heap [] ls h hP hD hS hl
  have w0 : ∀ (σ : S2) (x0 : Int32) (x1 : Int32) (x2 : Int32) (H : Heap) (locs : List Loc) (ls : Array Slot), fX12_in_0 σ x0 x1 x2 = some r0 → va_P (dC, dI) vwCl (wG (cM cy ad) ad 40 σ) H → va_D A (wG (cM cy ad) ad 40 σ) → va_S A s.heap H locs → lv_has ls 3 [(0, .int x0), (1, .int x1), (2, .int x2)] → W p l e (headSpec wsX12_in ({ frames := 1, cells := 0, slots := 0, locals := 23 })).room s m (#[.int a0, .int a1, .int a2]) below meth c H locs 0 0 (MQ below (va_Qi (fun (r : Int32) (_ : Unit) => r = r0) (fun (_ : Unit) t => wAt (dC, dI) A (wG (cM cy ad) ad 40 σ) t) A) (#[.int a0, .int a1, .int a2]) s 0 0 A) (F0 m 0 ls []) := by
    intro σ x0 x1 x2 H locs ls h hP hD hS hl
    unfold fX12_in_0 at h
    refine lv_iload_n hx hb dX12_in_0 rfl (lv_at hl 0 rfl) ?_
    refine lv_iload_n hx hb dX12_in_1 rfl (lv_at hl 1 rfl) ?_
    refine lv_icmp_lt (tgt := 14) hx hb dX12_in_2 (by decide) (fun hcd => ?_) (fun hcd => ?_)
    · have h := cdP hcd h
      refine lv_iconst (v := 0) hx hb dX12_in_14 (by decide) ?_
      exact ux_zretP hx hb hr rfl h hP hD hS hlocks dX12_in_15
    · have h := cdN hcd h
      refine lv_iload_n hx hb dX12_in_5 rfl (lv_at hl 0 rfl) ?_
      refine lv_iload_n hx hb dX12_in_6 rfl (lv_at hl 2 rfl) ?_
      refine lv_icmp_gt (tgt := 14) hx hb dX12_in_7 (by decide) (fun hcd => ?_) (fun hcd => ?_)
      · have h := cdP hcd h
        refine lv_iconst (v := 0) hx hb dX12_in_14 (by decide) ?_
        exact ux_zretP hx hb hr rfl h hP hD hS hlocks dX12_in_15
      · have h := cdN hcd h
        refine lv_iconst (v := 1) hx hb dX12_in_10 (by decide) ?_
        refine lv_goto (tgt := 15) hx hb dX12_in_11 (by decide) ?_
        exact ux_zretP hx hb hr rfl h hP hD hS hlocks dX12_in_15
  intro H locs ls h hP hD hS hl
  exact w0 σ a0 a1 a2 H locs ls h hP hD hS (lv_sub hl [0, 1, 2] rfl)

set_option maxHeartbeats 4000000 in
set_option maxRecDepth 100000 in
theorem tX12_isName (l : Launch) (dC : Nat → ClassId) (dI : Nat → Nat → Nat) (cy : Nat → ClassId) (ad : Nat → Nat) (σ : S2) (a1 : Int32) (sz : Nat) (r0 : Int32) (h : fX12_isName σ a1 = some r0) : Met l yX12_isName wsX12_isName ({ frames := 2, cells := 0, slots := 0, locals := 45 }) (va_Pc [.ref (ad 0), .int a1] (wPre (dC, dI) cy (wG (cM cy ad) ad 40 σ) sz)) (va_Qi (fun (r : Int32) (_ : Unit) => r = r0) (fun (_ : Unit) t => wAt (dC, dI) (va_A (wG (cM cy ad) ad 40 σ) sz) (wG (cM cy ad) ad 40 σ) t) (va_A (wG (cM cy ad) ad 40 σ) sz)) 0 0 (va_A (wG (cM cy ad) ad 40 σ) sz) := by
  refine Met.ofW (cc := cX12_isName) (maxL := 2) (ret := (some .boolean)) (by decide) rfl ?_
  intro p e s m args below meth c s₁ B hml hv
  obtain ⟨rfl, hsz, hP, hK, hD0, hN⟩ := hv
  have hx := B.exec
  have hb := B.bytes
  have hr := B.returns
  have hts := atoms_spec (ws := wsX12_isName) B.pre
  have hown : s.vm.findClass RX12 = some m.cls := findClass_of_methodNamed B.named
  have hlocks := B.notSynchronized
  subst hsz
  have hD := hD0.self (sz := s.heap.size)
  generalize hAe : va_A (wG (cM cy ad) ad 40 σ) s.heap.size = A at hD ⊢
  have hA : ∀ q : Nat, s.heap.size ≤ q → A q := fun q h => by rw [← hAe]; exact Or.inr h
  have hS : va_S A s.heap s.heap [] := va_S.rf
  have hl := lv_entry ([.ref (ad 0), .int a1]) (n := 2) (Nat.le_of_ble_eq_true rfl)
  rw [lg_entry_eq]
  generalize (lg_sl ([.ref (ad 0), .int a1]) ++ List.replicate (2 - (lg_sl ([.ref (ad 0), .int a1])).length) Slot.unset).toArray = ls at hl ⊢
  have hl : lv_has ls 2 [(0, .ref (ad 0)), (1, .int a1)] := hl
  unfold fX12_isName at h
  clear hAe hD0
  suffices HH : ∀ (H : Heap) (locs : List Loc) (ls : Array Slot), fX12_isName_0 σ a1 = some r0 → va_P (dC, dI) vwCl (wG (cM cy ad) ad 40 σ) H → va_D A (wG (cM cy ad) ad 40 σ) → va_S A s.heap H locs → lv_has ls 2 [(0, .ref (ad 0)), (1, .int a1)] → W p l e (headSpec wsX12_isName ({ frames := 2, cells := 0, slots := 0, locals := 45 })).room s m (#[.ref (ad 0), .int a1]) below meth c H locs 0 0 (MQ below (va_Qi (fun (r : Int32) (_ : Unit) => r = r0) (fun (_ : Unit) t => wAt (dC, dI) A (wG (cM cy ad) ad 40 σ) t) A) (#[.ref (ad 0), .int a1]) s 0 0 A) (F0 m 0 ls []) from HH s.heap [] ls h hP hD hS hl
  have w0 : ∀ (σ : S2) (x1 : Int32) (H : Heap) (locs : List Loc) (ls : Array Slot), fX12_isName_0 σ x1 = some r0 → va_P (dC, dI) vwCl (wG (cM cy ad) ad 40 σ) H → va_D A (wG (cM cy ad) ad 40 σ) → va_S A s.heap H locs → lv_has ls 2 [(0, .ref (ad 0)), (1, .int x1)] → W p l e (headSpec wsX12_isName ({ frames := 2, cells := 0, slots := 0, locals := 45 })).room s m (#[.ref (ad 0), .int a1]) below meth c H locs 0 0 (MQ below (va_Qi (fun (r : Int32) (_ : Unit) => r = r0) (fun (_ : Unit) t => wAt (dC, dI) A (wG (cM cy ad) ad 40 σ) t) A) (#[.ref (ad 0), .int a1]) s 0 0 A) (F0 m 0 ls []) := by
    intro σ x1 H locs ls h hP hD hS hl
    unfold fX12_isName_0 at h
    refine lv_iload_n hx hb dX12_isName_0 rfl (lv_at hl 1 rfl) ?_
    refine lv_iconst (v := 0) hx hb dX12_isName_1 (by decide) ?_
    refine lv_aload_n hx hb dX12_isName_2 rfl (lv_at hl 0 rfl) ?_
    refine ux_get (D := (dC, dI)) (ci := 12) (v := .int (σ.1 0 0)) (C := RX12) (T := TX12) (M := 59) (fs := (oM ad (σ.1 0))) hx hb hts (fun _ h9 => List.mem_cons_of_mem _ (List.mem_append_right _ h9)) hown hK hP 0 (Nat.le_of_ble_eq_true rfl) rfl rfl 0 (by decide) (hts (.fieldLink RX12 133 "SeatsRoundModel" "names" "I") (List.mem_of_getElem? (i := 1) rfl)) (fun _ h9 => h9) rfl dX12_isName_3 ?_
    refine lv_iconst (v := 1) hx hb dX12_isName_6 (by decide) ?_
    refine lv_isub hx hb dX12_isName_7 ?_
    obtain ⟨r1, hf2, h⟩ := biS h
    refine ux_calli (va_runS (As := [.int x1, .int 0, .int ((σ.1 0 0) - 1)]) (rest := []) ⟨hx, hb, hml, hown, hts⟩ (tX12_in l dC dI cy ad σ x1 0 ((σ.1 0 0) - 1) H.size r1 hf2) (va_cwS 3 hts gX12_isName_X12_in rfl rfl rfl (by decide +kernel) ⟨Nat.le_of_ble_eq_true rfl, Nat.le_of_ble_eq_true rfl⟩) (wp_S hK hN hP hD) rfl rfl hl.1 rfl (lv_room (Nat.le_of_ble_eq_true rfl)) dX12_isName_8 ⟨Nat.le_of_ble_eq_true rfl, Nat.le_of_ble_eq_true rfl⟩) hD hS hA (fun H locs hP hD hS => ?_)
    obtain ⟨hz3, h⟩ := zbS h
    exact ux_zretP hx hb hr hz3 h hP hD hS hlocks dX12_isName_11
  intro H locs ls h hP hD hS hl
  exact w0 σ a1 H locs ls h hP hD hS (lv_sub hl [0, 1] rfl)

set_option maxHeartbeats 4000000 in
set_option maxRecDepth 100000 in
theorem tX12_isKeeper (l : Launch) (dC : Nat → ClassId) (dI : Nat → Nat → Nat) (cy : Nat → ClassId) (ad : Nat → Nat) (σ : S2) (a1 : Int32) (sz : Nat) (r0 : Int32) (h : fX12_isKeeper σ a1 = some r0) : Met l yX12_isKeeper wsX12_isKeeper ({ frames := 2, cells := 0, slots := 0, locals := 45 }) (va_Pc [.ref (ad 0), .int a1] (wPre (dC, dI) cy (wG (cM cy ad) ad 40 σ) sz)) (va_Qi (fun (r : Int32) (_ : Unit) => r = r0) (fun (_ : Unit) t => wAt (dC, dI) (va_A (wG (cM cy ad) ad 40 σ) sz) (wG (cM cy ad) ad 40 σ) t) (va_A (wG (cM cy ad) ad 40 σ) sz)) 0 0 (va_A (wG (cM cy ad) ad 40 σ) sz) := by
  refine Met.ofW (cc := cX12_isKeeper) (maxL := 2) (ret := (some .boolean)) (by decide) rfl ?_
  intro p e s m args below meth c s₁ B hml hv
  obtain ⟨rfl, hsz, hP, hK, hD0, hN⟩ := hv
  have hx := B.exec
  have hb := B.bytes
  have hr := B.returns
  have hts := atoms_spec (ws := wsX12_isKeeper) B.pre
  have hown : s.vm.findClass RX12 = some m.cls := findClass_of_methodNamed B.named
  have hlocks := B.notSynchronized
  subst hsz
  have hD := hD0.self (sz := s.heap.size)
  generalize hAe : va_A (wG (cM cy ad) ad 40 σ) s.heap.size = A at hD ⊢
  have hA : ∀ q : Nat, s.heap.size ≤ q → A q := fun q h => by rw [← hAe]; exact Or.inr h
  have hS : va_S A s.heap s.heap [] := va_S.rf
  have hl := lv_entry ([.ref (ad 0), .int a1]) (n := 2) (Nat.le_of_ble_eq_true rfl)
  rw [lg_entry_eq]
  generalize (lg_sl ([.ref (ad 0), .int a1]) ++ List.replicate (2 - (lg_sl ([.ref (ad 0), .int a1])).length) Slot.unset).toArray = ls at hl ⊢
  have hl : lv_has ls 2 [(0, .ref (ad 0)), (1, .int a1)] := hl
  unfold fX12_isKeeper at h
  clear hAe hD0
  suffices HH : ∀ (H : Heap) (locs : List Loc) (ls : Array Slot), fX12_isKeeper_0 σ a1 = some r0 → va_P (dC, dI) vwCl (wG (cM cy ad) ad 40 σ) H → va_D A (wG (cM cy ad) ad 40 σ) → va_S A s.heap H locs → lv_has ls 2 [(0, .ref (ad 0)), (1, .int a1)] → W p l e (headSpec wsX12_isKeeper ({ frames := 2, cells := 0, slots := 0, locals := 45 })).room s m (#[.ref (ad 0), .int a1]) below meth c H locs 0 0 (MQ below (va_Qi (fun (r : Int32) (_ : Unit) => r = r0) (fun (_ : Unit) t => wAt (dC, dI) A (wG (cM cy ad) ad 40 σ) t) A) (#[.ref (ad 0), .int a1]) s 0 0 A) (F0 m 0 ls []) from HH s.heap [] ls h hP hD hS hl
  have w0 : ∀ (σ : S2) (x1 : Int32) (H : Heap) (locs : List Loc) (ls : Array Slot), fX12_isKeeper_0 σ x1 = some r0 → va_P (dC, dI) vwCl (wG (cM cy ad) ad 40 σ) H → va_D A (wG (cM cy ad) ad 40 σ) → va_S A s.heap H locs → lv_has ls 2 [(0, .ref (ad 0)), (1, .int x1)] → W p l e (headSpec wsX12_isKeeper ({ frames := 2, cells := 0, slots := 0, locals := 45 })).room s m (#[.ref (ad 0), .int a1]) below meth c H locs 0 0 (MQ below (va_Qi (fun (r : Int32) (_ : Unit) => r = r0) (fun (_ : Unit) t => wAt (dC, dI) A (wG (cM cy ad) ad 40 σ) t) A) (#[.ref (ad 0), .int a1]) s 0 0 A) (F0 m 0 ls []) := by
    intro σ x1 H locs ls h hP hD hS hl
    unfold fX12_isKeeper_0 at h
    refine lv_iload_n hx hb dX12_isKeeper_0 rfl (lv_at hl 1 rfl) ?_
    refine lv_iconst (v := 0) hx hb dX12_isKeeper_1 (by decide) ?_
    refine lv_aload_n hx hb dX12_isKeeper_2 rfl (lv_at hl 0 rfl) ?_
    refine ux_get (D := (dC, dI)) (ci := 12) (v := .int (σ.1 0 3)) (C := RX12) (T := TX12) (M := 59) (fs := (oM ad (σ.1 0))) hx hb hts (fun _ h9 => List.mem_cons_of_mem _ (List.mem_append_right _ h9)) hown hK hP 0 (Nat.le_of_ble_eq_true rfl) rfl rfl 3 (by decide) (hts (.fieldLink RX12 140 "SeatsRoundModel" "keepers" "I") (List.mem_of_getElem? (i := 1) rfl)) (fun _ h9 => h9) rfl dX12_isKeeper_3 ?_
    refine lv_iconst (v := 1) hx hb dX12_isKeeper_6 (by decide) ?_
    refine lv_isub hx hb dX12_isKeeper_7 ?_
    obtain ⟨r1, hf2, h⟩ := biS h
    refine ux_calli (va_runS (As := [.int x1, .int 0, .int ((σ.1 0 3) - 1)]) (rest := []) ⟨hx, hb, hml, hown, hts⟩ (tX12_in l dC dI cy ad σ x1 0 ((σ.1 0 3) - 1) H.size r1 hf2) (va_cwS 3 hts gX12_isKeeper_X12_in rfl rfl rfl (by decide +kernel) ⟨Nat.le_of_ble_eq_true rfl, Nat.le_of_ble_eq_true rfl⟩) (wp_S hK hN hP hD) rfl rfl hl.1 rfl (lv_room (Nat.le_of_ble_eq_true rfl)) dX12_isKeeper_8 ⟨Nat.le_of_ble_eq_true rfl, Nat.le_of_ble_eq_true rfl⟩) hD hS hA (fun H locs hP hD hS => ?_)
    obtain ⟨hz3, h⟩ := zbS h
    exact ux_zretP hx hb hr hz3 h hP hD hS hlocks dX12_isKeeper_11
  intro H locs ls h hP hD hS hl
  exact w0 σ a1 H locs ls h hP hD hS (lv_sub hl [0, 1] rfl)

set_option maxHeartbeats 4000000 in
set_option maxRecDepth 100000 in
theorem tX12_isTable (l : Launch) (dC : Nat → ClassId) (dI : Nat → Nat → Nat) (cy : Nat → ClassId) (ad : Nat → Nat) (σ : S2) (a1 : Int32) (sz : Nat) (r0 : Int32) (h : fX12_isTable σ a1 = some r0) : Met l yX12_isTable wsX12_isTable ({ frames := 2, cells := 0, slots := 0, locals := 45 }) (va_Pc [.ref (ad 0), .int a1] (wPre (dC, dI) cy (wG (cM cy ad) ad 40 σ) sz)) (va_Qi (fun (r : Int32) (_ : Unit) => r = r0) (fun (_ : Unit) t => wAt (dC, dI) (va_A (wG (cM cy ad) ad 40 σ) sz) (wG (cM cy ad) ad 40 σ) t) (va_A (wG (cM cy ad) ad 40 σ) sz)) 0 0 (va_A (wG (cM cy ad) ad 40 σ) sz) := by
  refine Met.ofW (cc := cX12_isTable) (maxL := 2) (ret := (some .boolean)) (by decide) rfl ?_
  intro p e s m args below meth c s₁ B hml hv
  obtain ⟨rfl, hsz, hP, hK, hD0, hN⟩ := hv
  have hx := B.exec
  have hb := B.bytes
  have hr := B.returns
  have hts := atoms_spec (ws := wsX12_isTable) B.pre
  have hown : s.vm.findClass RX12 = some m.cls := findClass_of_methodNamed B.named
  have hlocks := B.notSynchronized
  subst hsz
  have hD := hD0.self (sz := s.heap.size)
  generalize hAe : va_A (wG (cM cy ad) ad 40 σ) s.heap.size = A at hD ⊢
  have hA : ∀ q : Nat, s.heap.size ≤ q → A q := fun q h => by rw [← hAe]; exact Or.inr h
  have hS : va_S A s.heap s.heap [] := va_S.rf
  have hl := lv_entry ([.ref (ad 0), .int a1]) (n := 2) (Nat.le_of_ble_eq_true rfl)
  rw [lg_entry_eq]
  generalize (lg_sl ([.ref (ad 0), .int a1]) ++ List.replicate (2 - (lg_sl ([.ref (ad 0), .int a1])).length) Slot.unset).toArray = ls at hl ⊢
  have hl : lv_has ls 2 [(0, .ref (ad 0)), (1, .int a1)] := hl
  unfold fX12_isTable at h
  clear hAe hD0
  suffices HH : ∀ (H : Heap) (locs : List Loc) (ls : Array Slot), fX12_isTable_0 σ a1 = some r0 → va_P (dC, dI) vwCl (wG (cM cy ad) ad 40 σ) H → va_D A (wG (cM cy ad) ad 40 σ) → va_S A s.heap H locs → lv_has ls 2 [(0, .ref (ad 0)), (1, .int a1)] → W p l e (headSpec wsX12_isTable ({ frames := 2, cells := 0, slots := 0, locals := 45 })).room s m (#[.ref (ad 0), .int a1]) below meth c H locs 0 0 (MQ below (va_Qi (fun (r : Int32) (_ : Unit) => r = r0) (fun (_ : Unit) t => wAt (dC, dI) A (wG (cM cy ad) ad 40 σ) t) A) (#[.ref (ad 0), .int a1]) s 0 0 A) (F0 m 0 ls []) from HH s.heap [] ls h hP hD hS hl
  have w0 : ∀ (σ : S2) (x1 : Int32) (H : Heap) (locs : List Loc) (ls : Array Slot), fX12_isTable_0 σ x1 = some r0 → va_P (dC, dI) vwCl (wG (cM cy ad) ad 40 σ) H → va_D A (wG (cM cy ad) ad 40 σ) → va_S A s.heap H locs → lv_has ls 2 [(0, .ref (ad 0)), (1, .int x1)] → W p l e (headSpec wsX12_isTable ({ frames := 2, cells := 0, slots := 0, locals := 45 })).room s m (#[.ref (ad 0), .int a1]) below meth c H locs 0 0 (MQ below (va_Qi (fun (r : Int32) (_ : Unit) => r = r0) (fun (_ : Unit) t => wAt (dC, dI) A (wG (cM cy ad) ad 40 σ) t) A) (#[.ref (ad 0), .int a1]) s 0 0 A) (F0 m 0 ls []) := by
    intro σ x1 H locs ls h hP hD hS hl
    unfold fX12_isTable_0 at h
    refine lv_iload_n hx hb dX12_isTable_0 rfl (lv_at hl 1 rfl) ?_
    refine lv_iconst (v := 0) hx hb dX12_isTable_1 (by decide) ?_
    refine lv_aload_n hx hb dX12_isTable_2 rfl (lv_at hl 0 rfl) ?_
    refine ux_get (D := (dC, dI)) (ci := 12) (v := .int (σ.1 0 9)) (C := RX12) (T := TX12) (M := 59) (fs := (oM ad (σ.1 0))) hx hb hts (fun _ h9 => List.mem_cons_of_mem _ (List.mem_append_right _ h9)) hown hK hP 0 (Nat.le_of_ble_eq_true rfl) rfl rfl 9 (by decide) (hts (.fieldLink RX12 143 "SeatsRoundModel" "tables" "I") (List.mem_of_getElem? (i := 1) rfl)) (fun _ h9 => h9) rfl dX12_isTable_3 ?_
    refine lv_iconst (v := 1) hx hb dX12_isTable_6 (by decide) ?_
    refine lv_isub hx hb dX12_isTable_7 ?_
    obtain ⟨r1, hf2, h⟩ := biS h
    refine ux_calli (va_runS (As := [.int x1, .int 0, .int ((σ.1 0 9) - 1)]) (rest := []) ⟨hx, hb, hml, hown, hts⟩ (tX12_in l dC dI cy ad σ x1 0 ((σ.1 0 9) - 1) H.size r1 hf2) (va_cwS 3 hts gX12_isTable_X12_in rfl rfl rfl (by decide +kernel) ⟨Nat.le_of_ble_eq_true rfl, Nat.le_of_ble_eq_true rfl⟩) (wp_S hK hN hP hD) rfl rfl hl.1 rfl (lv_room (Nat.le_of_ble_eq_true rfl)) dX12_isTable_8 ⟨Nat.le_of_ble_eq_true rfl, Nat.le_of_ble_eq_true rfl⟩) hD hS hA (fun H locs hP hD hS => ?_)
    obtain ⟨hz3, h⟩ := zbS h
    exact ux_zretP hx hb hr hz3 h hP hD hS hlocks dX12_isTable_11
  intro H locs ls h hP hD hS hl
  exact w0 σ a1 H locs ls h hP hD hS (lv_sub hl [0, 1] rfl)

set_option maxHeartbeats 4000000 in
set_option maxRecDepth 100000 in
theorem tX12_feed (l : Launch) (dC : Nat → ClassId) (dI : Nat → Nat → Nat) (cy : Nat → ClassId) (ad : Nat → Nat) (σ : S2) (a1 : Int32) (a2 : Int32) (sz : Nat) (r0 : Int32) (σ9 : S2) (h : fX12_feed σ a1 a2 = some (r0, σ9)) : Met l yX12_feed wsX12_feed ({ frames := 2, cells := 0, slots := 0, locals := 45 }) (va_Pc [.ref (ad 0), .int a1, .int a2] (wPre (dC, dI) cy (wG (cM cy ad) ad 40 σ) sz)) (va_Qi (fun (r : Int32) (_ : Unit) => r = r0) (fun (_ : Unit) t => wAt (dC, dI) (va_A (wG (cM cy ad) ad 40 σ) sz) (wG (cM cy ad) ad 40 σ9) t) (va_A (wG (cM cy ad) ad 40 σ) sz)) 0 0 (va_A (wG (cM cy ad) ad 40 σ) sz) := by
  refine Met.ofW (cc := cX12_feed) (maxL := 4) (ret := (some .int)) (by decide) rfl ?_
  intro p e s m args below meth c s₁ B hml hv
  obtain ⟨rfl, hsz, hP, hK, hD0, hN⟩ := hv
  have hx := B.exec
  have hb := B.bytes
  have hr := B.returns
  have hts := atoms_spec (ws := wsX12_feed) B.pre
  have hown : s.vm.findClass RX12 = some m.cls := findClass_of_methodNamed B.named
  have hlocks := B.notSynchronized
  subst hsz
  have hD := hD0.self (sz := s.heap.size)
  generalize hAe : va_A (wG (cM cy ad) ad 40 σ) s.heap.size = A at hD ⊢
  have hA : ∀ q : Nat, s.heap.size ≤ q → A q := fun q h => by rw [← hAe]; exact Or.inr h
  have hS : va_S A s.heap s.heap [] := va_S.rf
  have hl := lv_entry ([.ref (ad 0), .int a1, .int a2]) (n := 4) (Nat.le_of_ble_eq_true rfl)
  rw [lg_entry_eq]
  generalize (lg_sl ([.ref (ad 0), .int a1, .int a2]) ++ List.replicate (4 - (lg_sl ([.ref (ad 0), .int a1, .int a2])).length) Slot.unset).toArray = ls at hl ⊢
  have hl : lv_has ls 4 [(0, .ref (ad 0)), (1, .int a1), (2, .int a2)] := hl
  unfold fX12_feed at h
  clear hAe hD0
  suffices HH : ∀ (H : Heap) (locs : List Loc) (ls : Array Slot), fX12_feed_0 σ a1 a2 = some (r0, σ9) → va_P (dC, dI) vwCl (wG (cM cy ad) ad 40 σ) H → va_D A (wG (cM cy ad) ad 40 σ) → va_S A s.heap H locs → lv_has ls 4 [(0, .ref (ad 0)), (1, .int a1), (2, .int a2)] → W p l e (headSpec wsX12_feed ({ frames := 2, cells := 0, slots := 0, locals := 45 })).room s m (#[.ref (ad 0), .int a1, .int a2]) below meth c H locs 0 0 (MQ below (va_Qi (fun (r : Int32) (_ : Unit) => r = r0) (fun (_ : Unit) t => wAt (dC, dI) A (wG (cM cy ad) ad 40 σ9) t) A) (#[.ref (ad 0), .int a1, .int a2]) s 0 0 A) (F0 m 0 ls []) from HH s.heap [] ls h hP hD hS hl
  have w27 : ∀ (n : Nat), ∀ (σ : S2) (x1 : Int32) (x2 : Int32) (x3 : Int32) (H : Heap) (locs : List Loc) (ls : Array Slot), fX12_feed_27 n σ x1 x2 x3 = some (r0, σ9) → va_P (dC, dI) vwCl (wG (cM cy ad) ad 40 σ) H → va_D A (wG (cM cy ad) ad 40 σ) → va_S A s.heap H locs → lv_has ls 4 [(0, .ref (ad 0)), (1, .int x1), (2, .int x2), (3, .int x3)] → W p l e (headSpec wsX12_feed ({ frames := 2, cells := 0, slots := 0, locals := 45 })).room s m (#[.ref (ad 0), .int a1, .int a2]) below meth c H locs 0 0 (MQ below (va_Qi (fun (r : Int32) (_ : Unit) => r = r0) (fun (_ : Unit) t => wAt (dC, dI) A (wG (cM cy ad) ad 40 σ9) t) A) (#[.ref (ad 0), .int a1, .int a2]) s 0 0 A) (F0 m 27 ls []) := by
    intro n
    induction n with
    | zero => intro σ x1 x2 x3 H locs ls h; cases h
    | succ n ih =>
    intro σ x1 x2 x3 H locs ls h hP hD hS hl
    unfold fX12_feed_27 at h
    refine lv_iload_n hx hb dX12_feed_27 rfl (lv_at hl 3 rfl) ?_
    refine lv_iload_n hx hb dX12_feed_28 rfl (lv_at hl 1 rfl) ?_
    refine lv_icmp_ge (tgt := 67) hx hb dX12_feed_29 (by decide) (fun hcd => ?_) (fun hcd => ?_)
    · have h := cdP hcd h
      refine lv_aload_n hx hb dX12_feed_67 rfl (lv_at hl 0 rfl) ?_
      refine ux_get (D := (dC, dI)) (ci := 12) (v := .int (σ.1 0 22)) (C := RX12) (T := TX12) (M := 59) (fs := (oM ad (σ.1 0))) hx hb hts (fun _ h9 => List.mem_cons_of_mem _ (List.mem_append_right _ h9)) hown hK hP 0 (Nat.le_of_ble_eq_true rfl) rfl rfl 22 (by decide) (hts (.fieldLink RX12 146 "SeatsRoundModel" "taped" "I") (List.mem_of_getElem? (i := 1) rfl)) (fun _ h9 => h9) rfl dX12_feed_68 ?_
      exact ux_iret hx hb hr h hP hD hS hlocks dX12_feed_71
    · have h := cdN hcd h
      refine lv_aload_n hx hb dX12_feed_32 rfl (lv_at hl 0 rfl) ?_
      refine ux_get (D := (dC, dI)) (ci := 12) (v := .ref (ad 19)) (C := RX12) (T := TX12) (M := 59) (fs := (oM ad (σ.1 0))) hx hb hts (fun _ h9 => List.mem_cons_of_mem _ (List.mem_append_right _ h9)) hown hK hP 0 (Nat.le_of_ble_eq_true rfl) rfl rfl 21 (by decide) (hts (.fieldLink RX12 65 "SeatsRoundModel" "tape" "[I") (List.mem_of_getElem? (i := 2) rfl)) (fun _ h9 => h9) rfl dX12_feed_33 ?_
      refine lv_aload_n hx hb dX12_feed_36 rfl (lv_at hl 0 rfl) ?_
      refine ux_get (D := (dC, dI)) (ci := 12) (v := .int (σ.1 0 22)) (C := RX12) (T := TX12) (M := 59) (fs := (oM ad (σ.1 0))) hx hb hts (fun _ h9 => List.mem_cons_of_mem _ (List.mem_append_right _ h9)) hown hK hP 0 (Nat.le_of_ble_eq_true rfl) rfl rfl 22 (by decide) (hts (.fieldLink RX12 146 "SeatsRoundModel" "taped" "I") (List.mem_of_getElem? (i := 1) rfl)) (fun _ h9 => h9) rfl dX12_feed_37 ?_
      refine lv_iload_n hx hb dX12_feed_40 rfl (lv_at hl 2 rfl) ?_
      refine lv_bipush (v := 8) hx hb dX12_feed_41 (by decide) ?_
      refine lv_iload_n hx hb dX12_feed_43 rfl (lv_at hl 3 rfl) ?_
      refine lv_imul hx hb dX12_feed_44 ?_
      change W _ _ _ _ _ _ _ _ _ _ _ _ _ _ _ (F0 m 45 ls [.int (8 * x3), .int x2, .int (σ.1 0 22), .ref (ad 19)])
      refine lv_ishr hx hb dX12_feed_45 ?_
      refine lv_sipush (v := 255) hx hb dX12_feed_46 (by decide) ?_
      refine lv_iand hx hb dX12_feed_49 ?_
      refine ux_iast hx hb hK hP hD hS 19 0 (Nat.le_of_ble_eq_true rfl) (fun _ => (cM_19 _ _ _ _)) rfl h dX12_feed_50 (fun σ1 H locs h hP hD hS => ?_)
      refine lv_aload_n hx hb dX12_feed_51 rfl (lv_at hl 0 rfl) ?_
      refine lv_dup hx hb dX12_feed_52 rfl ?_
      refine ux_get (D := (dC, dI)) (ci := 12) (v := .int (σ1.1 0 22)) (C := RX12) (T := TX12) (M := 59) (fs := (oM ad (σ1.1 0))) hx hb hts (fun _ h9 => List.mem_cons_of_mem _ (List.mem_append_right _ h9)) hown hK hP 0 (Nat.le_of_ble_eq_true rfl) rfl rfl 22 (by decide) (hts (.fieldLink RX12 146 "SeatsRoundModel" "taped" "I") (List.mem_of_getElem? (i := 1) rfl)) (fun _ h9 => h9) rfl dX12_feed_53 ?_
      refine lv_iconst (v := 1) hx hb dX12_feed_56 (by decide) ?_
      refine lv_iadd hx hb dX12_feed_57 ?_
      refine ux_put (D := (dC, dI)) (ci := 12) (C := RX12) (T := TX12) (M := 59) (fs := (oM ad (σ1.1 0))) hx hb hts (fun _ h9 => List.mem_cons_of_mem _ (List.mem_append_right _ h9)) tyX12 tyX12_ok nmX12 hown hK hP hD hS 0 (Nat.le_of_ble_eq_true rfl) rfl rfl 22 (by decide) (hts (.fieldLink RX12 146 "SeatsRoundModel" "taped" "I") (List.mem_of_getElem? (i := 1) rfl)) (fun _ h9 => h9) rfl (tyX12_ok 22 (by decide)) rfl rfl (Nat.le_of_ble_eq_true rfl) (oM_set_22 _ _ _ _ _) h dX12_feed_58 (fun σ2 H locs h hP hD hS => ?_)
      obtain ⟨v3, ev3⟩ : ∃ y : Int32, y = x3 + 1 := ⟨_, rfl⟩
      have h := nmS h ev3
      refine lv_iinc (v := v3) (lv' := [(3, .int v3), (0, .ref (ad 0)), (1, .int x1), (2, .int x2)]) hx hb dX12_feed_61 hl (k := 3) rfl (by rw [ev3]; rfl) (by decide) rfl (fun ls hl => ?_)
      have hl := lv_sub hl [1, 2, 3, 0] (l' := [(0, .ref (ad 0)), (1, .int x1), (2, .int x2), (3, .int v3)]) rfl
      refine lv_goto (tgt := 27) hx hb dX12_feed_64 (by decide) ?_
      exact ih σ2 x1 x2 v3 H locs ls h hP hD hS hl
  have w0 : ∀ (σ : S2) (x1 : Int32) (x2 : Int32) (H : Heap) (locs : List Loc) (ls : Array Slot), fX12_feed_0 σ x1 x2 = some (r0, σ9) → va_P (dC, dI) vwCl (wG (cM cy ad) ad 40 σ) H → va_D A (wG (cM cy ad) ad 40 σ) → va_S A s.heap H locs → lv_has ls 4 [(0, .ref (ad 0)), (1, .int x1), (2, .int x2)] → W p l e (headSpec wsX12_feed ({ frames := 2, cells := 0, slots := 0, locals := 45 })).room s m (#[.ref (ad 0), .int a1, .int a2]) below meth c H locs 0 0 (MQ below (va_Qi (fun (r : Int32) (_ : Unit) => r = r0) (fun (_ : Unit) t => wAt (dC, dI) A (wG (cM cy ad) ad 40 σ9) t) A) (#[.ref (ad 0), .int a1, .int a2]) s 0 0 A) (F0 m 0 ls []) := by
    intro σ x1 x2 H locs ls h hP hD hS hl
    unfold fX12_feed_0 at h
    refine lv_iload_n hx hb dX12_feed_0 rfl (lv_at hl 1 rfl) ?_
    refine lv_iconst (v := 1) hx hb dX12_feed_1 (by decide) ?_
    refine lv_iconst (v := 4) hx hb dX12_feed_2 (by decide) ?_
    obtain ⟨r4, hf5, h⟩ := biS h
    refine ux_calli (va_runS (As := [.int x1, .int 1, .int 4]) (rest := []) ⟨hx, hb, hml, hown, hts⟩ (tX12_in l dC dI cy ad σ x1 1 4 H.size r4 hf5) (va_cwS 3 hts gX12_feed_X12_in rfl rfl rfl (by decide +kernel) ⟨Nat.le_of_ble_eq_true rfl, Nat.le_of_ble_eq_true rfl⟩) (wp_S hK hN hP hD) rfl rfl hl.1 rfl (lv_room (Nat.le_of_ble_eq_true rfl)) dX12_feed_3 ⟨Nat.le_of_ble_eq_true rfl, Nat.le_of_ble_eq_true rfl⟩) hD hS hA (fun H locs hP hD hS => ?_)
    refine lv_if_ne (tgt := 11) hx hb dX12_feed_6 (by decide) (fun hcd => ?_) (fun hcd => ?_)
    · have h := cdN hcd h
      refine lv_aload_n hx hb dX12_feed_11 rfl (lv_at hl 0 rfl) ?_
      refine ux_get (D := (dC, dI)) (ci := 12) (v := .int (σ.1 0 22)) (C := RX12) (T := TX12) (M := 59) (fs := (oM ad (σ.1 0))) hx hb hts (fun _ h9 => List.mem_cons_of_mem _ (List.mem_append_right _ h9)) hown hK hP 0 (Nat.le_of_ble_eq_true rfl) rfl rfl 22 (by decide) (hts (.fieldLink RX12 146 "SeatsRoundModel" "taped" "I") (List.mem_of_getElem? (i := 1) rfl)) (fun _ h9 => h9) rfl dX12_feed_12 ?_
      refine lv_iload_n hx hb dX12_feed_15 rfl (lv_at hl 1 rfl) ?_
      refine lv_iadd hx hb dX12_feed_16 ?_
      refine lv_bipush (v := 80) hx hb dX12_feed_17 (by decide) ?_
      refine lv_icmp_le (tgt := 25) hx hb dX12_feed_19 (by decide) (fun hcd => ?_) (fun hcd => ?_)
      · have h := cdP hcd h
        refine lv_iconst (v := 0) hx hb dX12_feed_25 (by decide) ?_
        refine lv_istore_n (lv' := [(3, .int 0), (0, .ref (ad 0)), (1, .int x1), (2, .int x2)]) hx hb dX12_feed_26 rfl hl (by decide) rfl (fun ls hl => ?_)
        have hl := lv_sub hl [1, 2, 3, 0] (l' := [(0, .ref (ad 0)), (1, .int x1), (2, .int x2), (3, .int 0)]) rfl
        exact w27 FU σ x1 x2 0 H locs ls h hP hD hS hl
      · have h := cdN hcd h
        refine lv_bipush (v := (-3)) hx hb dX12_feed_22 (by decide) ?_
        exact ux_iret hx hb hr h hP hD hS hlocks dX12_feed_24
    · have h := cdP hcd h
      refine lv_iconst (v := (-1)) hx hb dX12_feed_9 (by decide) ?_
      exact ux_iret hx hb hr h hP hD hS hlocks dX12_feed_10
  intro H locs ls h hP hD hS hl
  exact w0 σ a1 a2 H locs ls h hP hD hS (lv_sub hl [0, 1, 2] rfl)

set_option maxHeartbeats 4000000 in
set_option maxRecDepth 100000 in
theorem tX12_found (l : Launch) (dC : Nat → ClassId) (dI : Nat → Nat → Nat) (cy : Nat → ClassId) (ad : Nat → Nat) (σ : S2) (a1 : Int32) (sz : Nat) (r0 : Int32) (h : fX12_found σ a1 = some r0) : Met l yX12_found wsX12_found ({ frames := 1, cells := 0, slots := 0, locals := 23 }) (va_Pc [.ref (ad 0), .int a1] (wPre (dC, dI) cy (wG (cM cy ad) ad 40 σ) sz)) (va_Qi (fun (r : Int32) (_ : Unit) => r = r0) (fun (_ : Unit) t => wAt (dC, dI) (va_A (wG (cM cy ad) ad 40 σ) sz) (wG (cM cy ad) ad 40 σ) t) (va_A (wG (cM cy ad) ad 40 σ) sz)) 0 0 (va_A (wG (cM cy ad) ad 40 σ) sz) := by
  refine Met.ofW (cc := cX12_found) (maxL := 5) (ret := (some .int)) (by decide) rfl ?_
  intro p e s m args below meth c s₁ B hml hv
  obtain ⟨rfl, hsz, hP, hK, hD0, hN⟩ := hv
  have hx := B.exec
  have hb := B.bytes
  have hr := B.returns
  have hts := atoms_spec (ws := wsX12_found) B.pre
  have hown : s.vm.findClass RX12 = some m.cls := findClass_of_methodNamed B.named
  have hlocks := B.notSynchronized
  subst hsz
  have hD := hD0.self (sz := s.heap.size)
  generalize hAe : va_A (wG (cM cy ad) ad 40 σ) s.heap.size = A at hD ⊢
  have hA : ∀ q : Nat, s.heap.size ≤ q → A q := fun q h => by rw [← hAe]; exact Or.inr h
  have hS : va_S A s.heap s.heap [] := va_S.rf
  have hl := lv_entry ([.ref (ad 0), .int a1]) (n := 5) (Nat.le_of_ble_eq_true rfl)
  rw [lg_entry_eq]
  generalize (lg_sl ([.ref (ad 0), .int a1]) ++ List.replicate (5 - (lg_sl ([.ref (ad 0), .int a1])).length) Slot.unset).toArray = ls at hl ⊢
  have hl : lv_has ls 5 [(0, .ref (ad 0)), (1, .int a1)] := hl
  unfold fX12_found at h
  clear hAe hD0
  suffices HH : ∀ (H : Heap) (locs : List Loc) (ls : Array Slot), fX12_found_0 σ a1 = some r0 → va_P (dC, dI) vwCl (wG (cM cy ad) ad 40 σ) H → va_D A (wG (cM cy ad) ad 40 σ) → va_S A s.heap H locs → lv_has ls 5 [(0, .ref (ad 0)), (1, .int a1)] → W p l e (headSpec wsX12_found ({ frames := 1, cells := 0, slots := 0, locals := 23 })).room s m (#[.ref (ad 0), .int a1]) below meth c H locs 0 0 (MQ below (va_Qi (fun (r : Int32) (_ : Unit) => r = r0) (fun (_ : Unit) t => wAt (dC, dI) A (wG (cM cy ad) ad 40 σ) t) A) (#[.ref (ad 0), .int a1]) s 0 0 A) (F0 m 0 ls []) from HH s.heap [] ls h hP hD hS hl
  have w73 : ∀ (k2 : S2 → Int32 → Int32 → Option Int32) (hk2 : ∀ (σ : S2) (x1 : Int32) (x2 : Int32) (H : Heap) (locs : List Loc) (ls : Array Slot), k2 σ x1 x2 = some r0 → va_P (dC, dI) vwCl (wG (cM cy ad) ad 40 σ) H → va_D A (wG (cM cy ad) ad 40 σ) → va_S A s.heap H locs → lv_has ls 5 [(0, .ref (ad 0)), (1, .int x1), (2, .int x2)] → W p l e (headSpec wsX12_found ({ frames := 1, cells := 0, slots := 0, locals := 23 })).room s m (#[.ref (ad 0), .int a1]) below meth c H locs 0 0 (MQ below (va_Qi (fun (r : Int32) (_ : Unit) => r = r0) (fun (_ : Unit) t => wAt (dC, dI) A (wG (cM cy ad) ad 40 σ) t) A) (#[.ref (ad 0), .int a1]) s 0 0 A) (F0 m 2 ls [])) , ∀ (σ : S2) (x1 : Int32) (x2 : Int32) (x3 : Int32) (H : Heap) (locs : List Loc) (ls : Array Slot), fX12_found_73 k2 σ x1 x2 x3 = some r0 → va_P (dC, dI) vwCl (wG (cM cy ad) ad 40 σ) H → va_D A (wG (cM cy ad) ad 40 σ) → va_S A s.heap H locs → lv_has ls 5 [(0, .ref (ad 0)), (1, .int x1), (2, .int x2), (3, .int x3)] → W p l e (headSpec wsX12_found ({ frames := 1, cells := 0, slots := 0, locals := 23 })).room s m (#[.ref (ad 0), .int a1]) below meth c H locs 0 0 (MQ below (va_Qi (fun (r : Int32) (_ : Unit) => r = r0) (fun (_ : Unit) t => wAt (dC, dI) A (wG (cM cy ad) ad 40 σ) t) A) (#[.ref (ad 0), .int a1]) s 0 0 A) (F0 m 73 ls []) := by
    intro k2 hk2 σ x1 x2 x3 H locs ls h hP hD hS hl
    unfold fX12_found_73 at h
    refine lv_iload_n hx hb dX12_found_73 rfl (lv_at hl 3 rfl) ?_
    refine lv_if_eq (tgt := 79) hx hb dX12_found_74 (by decide) (fun hcd => ?_) (fun hcd => ?_)
    · have h := cdP hcd h
      obtain ⟨v1, ev1⟩ : ∃ y : Int32, y = x2 + 1 := ⟨_, rfl⟩
      have h := nmS h ev1
      refine lv_iinc (v := v1) (lv' := [(2, .int v1), (0, .ref (ad 0)), (1, .int x1), (3, .int x3)]) hx hb dX12_found_79 hl (k := 2) rfl (by rw [ev1]; rfl) (by decide) rfl (fun ls hl => ?_)
      have hl := lv_sub hl [1, 2, 0, 3] (l' := [(0, .ref (ad 0)), (1, .int x1), (2, .int v1), (3, .int x3)]) rfl
      refine lv_goto (tgt := 2) hx hb dX12_found_82 (by decide) ?_
      exact hk2 σ x1 v1 H locs ls h hP hD hS (lv_sub hl [0, 1, 2] rfl)
    · have h := cdN hcd h
      refine lv_iload_n hx hb dX12_found_77 rfl (lv_at hl 2 rfl) ?_
      exact ux_iretP hx hb hr h hP hD hS hlocks dX12_found_78
  have w66 : ∀ (k29 : S2 → Int32 → Int32 → Int32 → Int32 → Option Int32) (hk29 : ∀ (σ : S2) (x1 : Int32) (x2 : Int32) (x3 : Int32) (x4 : Int32) (H : Heap) (locs : List Loc) (ls : Array Slot), k29 σ x1 x2 x3 x4 = some r0 → va_P (dC, dI) vwCl (wG (cM cy ad) ad 40 σ) H → va_D A (wG (cM cy ad) ad 40 σ) → va_S A s.heap H locs → lv_has ls 5 [(0, .ref (ad 0)), (1, .int x1), (2, .int x2), (3, .int x3), (4, .int x4)] → W p l e (headSpec wsX12_found ({ frames := 1, cells := 0, slots := 0, locals := 23 })).room s m (#[.ref (ad 0), .int a1]) below meth c H locs 0 0 (MQ below (va_Qi (fun (r : Int32) (_ : Unit) => r = r0) (fun (_ : Unit) t => wAt (dC, dI) A (wG (cM cy ad) ad 40 σ) t) A) (#[.ref (ad 0), .int a1]) s 0 0 A) (F0 m 29 ls [])) , ∀ (σ : S2) (x1 : Int32) (x2 : Int32) (x4 : Int32) (s0 : Int32) (H : Heap) (locs : List Loc) (ls : Array Slot), fX12_found_66 k29 σ x1 x2 x4 s0 = some r0 → va_P (dC, dI) vwCl (wG (cM cy ad) ad 40 σ) H → va_D A (wG (cM cy ad) ad 40 σ) → va_S A s.heap H locs → lv_has ls 5 [(0, .ref (ad 0)), (1, .int x1), (2, .int x2), (4, .int x4)] → W p l e (headSpec wsX12_found ({ frames := 1, cells := 0, slots := 0, locals := 23 })).room s m (#[.ref (ad 0), .int a1]) below meth c H locs 0 0 (MQ below (va_Qi (fun (r : Int32) (_ : Unit) => r = r0) (fun (_ : Unit) t => wAt (dC, dI) A (wG (cM cy ad) ad 40 σ) t) A) (#[.ref (ad 0), .int a1]) s 0 0 A) (F0 m 66 ls [.int s0]) := by
    intro k29 hk29 σ x1 x2 x4 s0 H locs ls h hP hD hS hl
    unfold fX12_found_66 at h
    refine lv_istore_n (lv' := [(3, .int s0), (0, .ref (ad 0)), (1, .int x1), (2, .int x2), (4, .int x4)]) hx hb dX12_found_66 rfl hl (by decide) rfl (fun ls hl => ?_)
    have hl := lv_sub hl [1, 2, 3, 0, 4] (l' := [(0, .ref (ad 0)), (1, .int x1), (2, .int x2), (3, .int s0), (4, .int x4)]) rfl
    obtain ⟨v2, ev2⟩ : ∃ y : Int32, y = x4 + 1 := ⟨_, rfl⟩
    have h := nmS h ev2
    refine lv_iinc (v := v2) (lv' := [(4, .int v2), (0, .ref (ad 0)), (1, .int x1), (2, .int x2), (3, .int s0)]) hx hb dX12_found_67 hl (k := 4) rfl (by rw [ev2]; rfl) (by decide) rfl (fun ls hl => ?_)
    have hl := lv_sub hl [1, 2, 3, 4, 0] (l' := [(0, .ref (ad 0)), (1, .int x1), (2, .int x2), (3, .int s0), (4, .int v2)]) rfl
    refine lv_goto (tgt := 29) hx hb dX12_found_70 (by decide) ?_
    exact hk29 σ x1 x2 s0 v2 H locs ls h hP hD hS hl
  have w29 : ∀ (k2 : S2 → Int32 → Int32 → Option Int32) (hk2 : ∀ (σ : S2) (x1 : Int32) (x2 : Int32) (H : Heap) (locs : List Loc) (ls : Array Slot), k2 σ x1 x2 = some r0 → va_P (dC, dI) vwCl (wG (cM cy ad) ad 40 σ) H → va_D A (wG (cM cy ad) ad 40 σ) → va_S A s.heap H locs → lv_has ls 5 [(0, .ref (ad 0)), (1, .int x1), (2, .int x2)] → W p l e (headSpec wsX12_found ({ frames := 1, cells := 0, slots := 0, locals := 23 })).room s m (#[.ref (ad 0), .int a1]) below meth c H locs 0 0 (MQ below (va_Qi (fun (r : Int32) (_ : Unit) => r = r0) (fun (_ : Unit) t => wAt (dC, dI) A (wG (cM cy ad) ad 40 σ) t) A) (#[.ref (ad 0), .int a1]) s 0 0 A) (F0 m 2 ls [])) (n : Nat), ∀ (σ : S2) (x1 : Int32) (x2 : Int32) (x3 : Int32) (x4 : Int32) (H : Heap) (locs : List Loc) (ls : Array Slot), fX12_found_29 k2 n σ x1 x2 x3 x4 = some r0 → va_P (dC, dI) vwCl (wG (cM cy ad) ad 40 σ) H → va_D A (wG (cM cy ad) ad 40 σ) → va_S A s.heap H locs → lv_has ls 5 [(0, .ref (ad 0)), (1, .int x1), (2, .int x2), (3, .int x3), (4, .int x4)] → W p l e (headSpec wsX12_found ({ frames := 1, cells := 0, slots := 0, locals := 23 })).room s m (#[.ref (ad 0), .int a1]) below meth c H locs 0 0 (MQ below (va_Qi (fun (r : Int32) (_ : Unit) => r = r0) (fun (_ : Unit) t => wAt (dC, dI) A (wG (cM cy ad) ad 40 σ) t) A) (#[.ref (ad 0), .int a1]) s 0 0 A) (F0 m 29 ls []) := by
    intro k2 hk2 n
    induction n with
    | zero => intro σ x1 x2 x3 x4 H locs ls h; cases h
    | succ n ih =>
    intro σ x1 x2 x3 x4 H locs ls h hP hD hS hl
    unfold fX12_found_29 at h
    refine lv_iload hx hb dX12_found_29 (lv_at hl 4 rfl) ?_
    refine lv_iload_n hx hb dX12_found_31 rfl (lv_at hl 1 rfl) ?_
    refine lv_icmp_ge (tgt := 73) hx hb dX12_found_32 (by decide) (fun hcd => ?_) (fun hcd => ?_)
    · have h := cdP hcd h
      exact w73 _ hk2 σ x1 x2 x3 H locs ls h hP hD hS (lv_sub hl [0, 1, 2, 3] rfl)
    · have h := cdN hcd h
      refine lv_iload_n hx hb dX12_found_35 rfl (lv_at hl 3 rfl) ?_
      refine lv_if_eq (tgt := 73) hx hb dX12_found_36 (by decide) (fun hcd => ?_) (fun hcd => ?_)
      · have h := cdP hcd h
        exact w73 _ hk2 σ x1 x2 x3 H locs ls h hP hD hS (lv_sub hl [0, 1, 2, 3] rfl)
      · have h := cdN hcd h
        refine lv_aload_n hx hb dX12_found_39 rfl (lv_at hl 0 rfl) ?_
        refine ux_get (D := (dC, dI)) (ci := 12) (v := .ref (ad 2)) (C := RX12) (T := TX12) (M := 59) (fs := (oM ad (σ.1 0))) hx hb hts (fun _ h9 => List.mem_cons_of_mem _ (List.mem_append_right _ h9)) hown hK hP 0 (Nat.le_of_ble_eq_true rfl) rfl rfl 2 (by decide) (hts (.fieldLink RX12 13 "SeatsRoundModel" "nameByte" "[I") (List.mem_of_getElem? (i := 3) rfl)) (fun _ h9 => h9) rfl dX12_found_40 ?_
        refine lv_bipush (v := 6) hx hb dX12_found_43 (by decide) ?_
        refine lv_iload_n hx hb dX12_found_45 rfl (lv_at hl 2 rfl) ?_
        refine lv_imul hx hb dX12_found_46 ?_
        refine lv_iload hx hb dX12_found_47 (lv_at hl 4 rfl) ?_
        refine lv_iadd hx hb dX12_found_49 ?_
        refine ux_iald hx hb hK hP 2 0 (Nat.le_of_ble_eq_true rfl) (cM_2 _ _ _ _) rfl h dX12_found_50 (fun v3 h => ?_)
        change W _ _ _ _ _ _ _ _ _ _ _ _ _ _ _ (F0 m 51 ls [.int v3])
        refine lv_aload_n hx hb dX12_found_51 rfl (lv_at hl 0 rfl) ?_
        refine ux_get (D := (dC, dI)) (ci := 12) (v := .ref (ad 34)) (C := RX12) (T := TX12) (M := 59) (fs := (oM ad (σ.1 0))) hx hb hts (fun _ h9 => List.mem_cons_of_mem _ (List.mem_append_right _ h9)) hown hK hP 0 (Nat.le_of_ble_eq_true rfl) rfl rfl 43 (by decide) (hts (.fieldLink RX12 115 "SeatsRoundModel" "told" "[I") (List.mem_of_getElem? (i := 4) rfl)) (fun _ h9 => h9) rfl dX12_found_52 ?_
        refine lv_iload hx hb dX12_found_55 (lv_at hl 4 rfl) ?_
        refine ux_iald hx hb hK hP 34 0 (Nat.le_of_ble_eq_true rfl) (cM_34 _ _ _ _) rfl h dX12_found_57 (fun v4 h => ?_)
        refine lv_icmp_ne (tgt := 65) hx hb dX12_found_58 (by decide) (fun hcd => ?_) (fun hcd => ?_)
        · have h := cdN hcd h
          refine lv_iconst (v := 0) hx hb dX12_found_65 (by decide) ?_
          exact w66 _ ih σ x1 x2 x4 0 H locs ls h hP hD hS (lv_sub hl [0, 1, 2, 4] rfl)
        · have h := cdP hcd h
          refine lv_iconst (v := 1) hx hb dX12_found_61 (by decide) ?_
          refine lv_goto (tgt := 66) hx hb dX12_found_62 (by decide) ?_
          exact w66 _ ih σ x1 x2 x4 1 H locs ls h hP hD hS (lv_sub hl [0, 1, 2, 4] rfl)
  have w25 : ∀ (k2 : S2 → Int32 → Int32 → Option Int32) (hk2 : ∀ (σ : S2) (x1 : Int32) (x2 : Int32) (H : Heap) (locs : List Loc) (ls : Array Slot), k2 σ x1 x2 = some r0 → va_P (dC, dI) vwCl (wG (cM cy ad) ad 40 σ) H → va_D A (wG (cM cy ad) ad 40 σ) → va_S A s.heap H locs → lv_has ls 5 [(0, .ref (ad 0)), (1, .int x1), (2, .int x2)] → W p l e (headSpec wsX12_found ({ frames := 1, cells := 0, slots := 0, locals := 23 })).room s m (#[.ref (ad 0), .int a1]) below meth c H locs 0 0 (MQ below (va_Qi (fun (r : Int32) (_ : Unit) => r = r0) (fun (_ : Unit) t => wAt (dC, dI) A (wG (cM cy ad) ad 40 σ) t) A) (#[.ref (ad 0), .int a1]) s 0 0 A) (F0 m 2 ls [])) , ∀ (σ : S2) (x1 : Int32) (x2 : Int32) (s0 : Int32) (H : Heap) (locs : List Loc) (ls : Array Slot), fX12_found_25 k2 σ x1 x2 s0 = some r0 → va_P (dC, dI) vwCl (wG (cM cy ad) ad 40 σ) H → va_D A (wG (cM cy ad) ad 40 σ) → va_S A s.heap H locs → lv_has ls 5 [(0, .ref (ad 0)), (1, .int x1), (2, .int x2)] → W p l e (headSpec wsX12_found ({ frames := 1, cells := 0, slots := 0, locals := 23 })).room s m (#[.ref (ad 0), .int a1]) below meth c H locs 0 0 (MQ below (va_Qi (fun (r : Int32) (_ : Unit) => r = r0) (fun (_ : Unit) t => wAt (dC, dI) A (wG (cM cy ad) ad 40 σ) t) A) (#[.ref (ad 0), .int a1]) s 0 0 A) (F0 m 25 ls [.int s0]) := by
    intro k2 hk2 σ x1 x2 s0 H locs ls h hP hD hS hl
    unfold fX12_found_25 at h
    refine lv_istore_n (lv' := [(3, .int s0), (0, .ref (ad 0)), (1, .int x1), (2, .int x2)]) hx hb dX12_found_25 rfl hl (by decide) rfl (fun ls hl => ?_)
    have hl := lv_sub hl [1, 2, 3, 0] (l' := [(0, .ref (ad 0)), (1, .int x1), (2, .int x2), (3, .int s0)]) rfl
    refine lv_iconst (v := 0) hx hb dX12_found_26 (by decide) ?_
    refine lv_istore (lv' := [(4, .int 0), (0, .ref (ad 0)), (1, .int x1), (2, .int x2), (3, .int s0)]) hx hb dX12_found_27 hl (by decide) rfl (fun ls hl => ?_)
    have hl := lv_sub hl [1, 2, 3, 4, 0] (l' := [(0, .ref (ad 0)), (1, .int x1), (2, .int x2), (3, .int s0), (4, .int 0)]) rfl
    exact w29 _ hk2 FU σ x1 x2 s0 0 H locs ls h hP hD hS hl
  have w2 : ∀ (n : Nat), ∀ (σ : S2) (x1 : Int32) (x2 : Int32) (H : Heap) (locs : List Loc) (ls : Array Slot), fX12_found_2 n σ x1 x2 = some r0 → va_P (dC, dI) vwCl (wG (cM cy ad) ad 40 σ) H → va_D A (wG (cM cy ad) ad 40 σ) → va_S A s.heap H locs → lv_has ls 5 [(0, .ref (ad 0)), (1, .int x1), (2, .int x2)] → W p l e (headSpec wsX12_found ({ frames := 1, cells := 0, slots := 0, locals := 23 })).room s m (#[.ref (ad 0), .int a1]) below meth c H locs 0 0 (MQ below (va_Qi (fun (r : Int32) (_ : Unit) => r = r0) (fun (_ : Unit) t => wAt (dC, dI) A (wG (cM cy ad) ad 40 σ) t) A) (#[.ref (ad 0), .int a1]) s 0 0 A) (F0 m 2 ls []) := by
    intro n
    induction n with
    | zero => intro σ x1 x2 H locs ls h; cases h
    | succ n ih =>
    intro σ x1 x2 H locs ls h hP hD hS hl
    unfold fX12_found_2 at h
    refine lv_iload_n hx hb dX12_found_2 rfl (lv_at hl 2 rfl) ?_
    refine lv_aload_n hx hb dX12_found_3 rfl (lv_at hl 0 rfl) ?_
    refine ux_get (D := (dC, dI)) (ci := 12) (v := .int (σ.1 0 0)) (C := RX12) (T := TX12) (M := 59) (fs := (oM ad (σ.1 0))) hx hb hts (fun _ h9 => List.mem_cons_of_mem _ (List.mem_append_right _ h9)) hown hK hP 0 (Nat.le_of_ble_eq_true rfl) rfl rfl 0 (by decide) (hts (.fieldLink RX12 133 "SeatsRoundModel" "names" "I") (List.mem_of_getElem? (i := 1) rfl)) (fun _ h9 => h9) rfl dX12_found_4 ?_
    refine lv_icmp_ge (tgt := 85) hx hb dX12_found_7 (by decide) (fun hcd => ?_) (fun hcd => ?_)
    · have h := cdP hcd h
      refine lv_iconst (v := (-1)) hx hb dX12_found_85 (by decide) ?_
      exact ux_iretP hx hb hr h hP hD hS hlocks dX12_found_86
    · have h := cdN hcd h
      refine lv_aload_n hx hb dX12_found_10 rfl (lv_at hl 0 rfl) ?_
      refine ux_get (D := (dC, dI)) (ci := 12) (v := .ref (ad 1)) (C := RX12) (T := TX12) (M := 59) (fs := (oM ad (σ.1 0))) hx hb hts (fun _ h9 => List.mem_cons_of_mem _ (List.mem_append_right _ h9)) hown hK hP 0 (Nat.le_of_ble_eq_true rfl) rfl rfl 1 (by decide) (hts (.fieldLink RX12 7 "SeatsRoundModel" "nameSize" "[I") (List.mem_of_getElem? (i := 2) rfl)) (fun _ h9 => h9) rfl dX12_found_11 ?_
      refine lv_iload_n hx hb dX12_found_14 rfl (lv_at hl 2 rfl) ?_
      refine ux_iald hx hb hK hP 1 0 (Nat.le_of_ble_eq_true rfl) (cM_1 _ _ _ _) rfl h dX12_found_15 (fun v5 h => ?_)
      refine lv_iload_n hx hb dX12_found_16 rfl (lv_at hl 1 rfl) ?_
      refine lv_icmp_ne (tgt := 24) hx hb dX12_found_17 (by decide) (fun hcd => ?_) (fun hcd => ?_)
      · have h := cdN hcd h
        refine lv_iconst (v := 0) hx hb dX12_found_24 (by decide) ?_
        exact w25 _ ih σ x1 x2 0 H locs ls h hP hD hS hl
      · have h := cdP hcd h
        refine lv_iconst (v := 1) hx hb dX12_found_20 (by decide) ?_
        refine lv_goto (tgt := 25) hx hb dX12_found_21 (by decide) ?_
        exact w25 _ ih σ x1 x2 1 H locs ls h hP hD hS hl
  have w0 : ∀ (σ : S2) (x1 : Int32) (H : Heap) (locs : List Loc) (ls : Array Slot), fX12_found_0 σ x1 = some r0 → va_P (dC, dI) vwCl (wG (cM cy ad) ad 40 σ) H → va_D A (wG (cM cy ad) ad 40 σ) → va_S A s.heap H locs → lv_has ls 5 [(0, .ref (ad 0)), (1, .int x1)] → W p l e (headSpec wsX12_found ({ frames := 1, cells := 0, slots := 0, locals := 23 })).room s m (#[.ref (ad 0), .int a1]) below meth c H locs 0 0 (MQ below (va_Qi (fun (r : Int32) (_ : Unit) => r = r0) (fun (_ : Unit) t => wAt (dC, dI) A (wG (cM cy ad) ad 40 σ) t) A) (#[.ref (ad 0), .int a1]) s 0 0 A) (F0 m 0 ls []) := by
    intro σ x1 H locs ls h hP hD hS hl
    unfold fX12_found_0 at h
    refine lv_iconst (v := 0) hx hb dX12_found_0 (by decide) ?_
    refine lv_istore_n (lv' := [(2, .int 0), (0, .ref (ad 0)), (1, .int x1)]) hx hb dX12_found_1 rfl hl (by decide) rfl (fun ls hl => ?_)
    have hl := lv_sub hl [1, 2, 0] (l' := [(0, .ref (ad 0)), (1, .int x1), (2, .int 0)]) rfl
    exact w2 FU σ x1 0 H locs ls h hP hD hS hl
  intro H locs ls h hP hD hS hl
  exact w0 σ a1 H locs ls h hP hD hS (lv_sub hl [0, 1] rfl)

set_option maxHeartbeats 4000000 in
set_option maxRecDepth 100000 in
theorem tX12_comesName (l : Launch) (dC : Nat → ClassId) (dI : Nat → Nat → Nat) (cy : Nat → ClassId) (ad : Nat → Nat) (σ : S2) (a1 : Int32) (sz : Nat) (r0 : Unit) (σ9 : S2) (h : fX12_comesName σ a1 = some (r0, σ9)) : Met l yX12_comesName wsX12_comesName ({ frames := 1, cells := 0, slots := 0, locals := 23 }) (va_Pc [.ref (ad 0), .int a1] (wPre (dC, dI) cy (wG (cM cy ad) ad 40 σ) sz)) (va_Qv (fun (_ : Unit) => True) (fun (_ : Unit) t => wAt (dC, dI) (va_A (wG (cM cy ad) ad 40 σ) sz) (wG (cM cy ad) ad 40 σ9) t) (va_A (wG (cM cy ad) ad 40 σ) sz)) 0 0 (va_A (wG (cM cy ad) ad 40 σ) sz) := by
  refine Met.ofW (cc := cX12_comesName) (maxL := 3) (ret := none) (by decide) rfl ?_
  intro p e s m args below meth c s₁ B hml hv
  obtain ⟨rfl, hsz, hP, hK, hD0, hN⟩ := hv
  have hx := B.exec
  have hb := B.bytes
  have hr := B.returns
  have hts := atoms_spec (ws := wsX12_comesName) B.pre
  have hown : s.vm.findClass RX12 = some m.cls := findClass_of_methodNamed B.named
  have hlocks := B.notSynchronized
  subst hsz
  have hD := hD0.self (sz := s.heap.size)
  generalize hAe : va_A (wG (cM cy ad) ad 40 σ) s.heap.size = A at hD ⊢
  have hA : ∀ q : Nat, s.heap.size ≤ q → A q := fun q h => by rw [← hAe]; exact Or.inr h
  have hS : va_S A s.heap s.heap [] := va_S.rf
  have hl := lv_entry ([.ref (ad 0), .int a1]) (n := 3) (Nat.le_of_ble_eq_true rfl)
  rw [lg_entry_eq]
  generalize (lg_sl ([.ref (ad 0), .int a1]) ++ List.replicate (3 - (lg_sl ([.ref (ad 0), .int a1])).length) Slot.unset).toArray = ls at hl ⊢
  have hl : lv_has ls 3 [(0, .ref (ad 0)), (1, .int a1)] := hl
  unfold fX12_comesName at h
  clear hAe hD0
  suffices HH : ∀ (H : Heap) (locs : List Loc) (ls : Array Slot), fX12_comesName_0 σ a1 = some (r0, σ9) → va_P (dC, dI) vwCl (wG (cM cy ad) ad 40 σ) H → va_D A (wG (cM cy ad) ad 40 σ) → va_S A s.heap H locs → lv_has ls 3 [(0, .ref (ad 0)), (1, .int a1)] → W p l e (headSpec wsX12_comesName ({ frames := 1, cells := 0, slots := 0, locals := 23 })).room s m (#[.ref (ad 0), .int a1]) below meth c H locs 0 0 (MQ below (va_Qv (fun (_ : Unit) => True) (fun (_ : Unit) t => wAt (dC, dI) A (wG (cM cy ad) ad 40 σ9) t) A) (#[.ref (ad 0), .int a1]) s 0 0 A) (F0 m 0 ls []) from HH s.heap [] ls h hP hD hS hl
  have w12 : ∀ (n : Nat), ∀ (σ : S2) (x1 : Int32) (x2 : Int32) (H : Heap) (locs : List Loc) (ls : Array Slot), fX12_comesName_12 n σ x1 x2 = some (r0, σ9) → va_P (dC, dI) vwCl (wG (cM cy ad) ad 40 σ) H → va_D A (wG (cM cy ad) ad 40 σ) → va_S A s.heap H locs → lv_has ls 3 [(0, .ref (ad 0)), (1, .int x1), (2, .int x2)] → W p l e (headSpec wsX12_comesName ({ frames := 1, cells := 0, slots := 0, locals := 23 })).room s m (#[.ref (ad 0), .int a1]) below meth c H locs 0 0 (MQ below (va_Qv (fun (_ : Unit) => True) (fun (_ : Unit) t => wAt (dC, dI) A (wG (cM cy ad) ad 40 σ9) t) A) (#[.ref (ad 0), .int a1]) s 0 0 A) (F0 m 12 ls []) := by
    intro n
    induction n with
    | zero => intro σ x1 x2 H locs ls h; cases h
    | succ n ih =>
    intro σ x1 x2 H locs ls h hP hD hS hl
    unfold fX12_comesName_12 at h
    refine lv_iload_n hx hb dX12_comesName_12 rfl (lv_at hl 2 rfl) ?_
    refine lv_iload_n hx hb dX12_comesName_13 rfl (lv_at hl 1 rfl) ?_
    refine lv_icmp_ge (tgt := 43) hx hb dX12_comesName_14 (by decide) (fun hcd => ?_) (fun hcd => ?_)
    · have h := cdP hcd h
      refine lv_aload_n hx hb dX12_comesName_43 rfl (lv_at hl 0 rfl) ?_
      refine lv_dup hx hb dX12_comesName_44 rfl ?_
      refine ux_get (D := (dC, dI)) (ci := 12) (v := .int (σ.1 0 0)) (C := RX12) (T := TX12) (M := 59) (fs := (oM ad (σ.1 0))) hx hb hts (fun _ h9 => List.mem_cons_of_mem _ (List.mem_append_right _ h9)) hown hK hP 0 (Nat.le_of_ble_eq_true rfl) rfl rfl 0 (by decide) (hts (.fieldLink RX12 133 "SeatsRoundModel" "names" "I") (List.mem_of_getElem? (i := 2) rfl)) (fun _ h9 => h9) rfl dX12_comesName_45 ?_
      refine lv_iconst (v := 1) hx hb dX12_comesName_48 (by decide) ?_
      refine lv_iadd hx hb dX12_comesName_49 ?_
      refine ux_put (D := (dC, dI)) (ci := 12) (C := RX12) (T := TX12) (M := 59) (fs := (oM ad (σ.1 0))) hx hb hts (fun _ h9 => List.mem_cons_of_mem _ (List.mem_append_right _ h9)) tyX12 tyX12_ok nmX12 hown hK hP hD hS 0 (Nat.le_of_ble_eq_true rfl) rfl rfl 0 (by decide) (hts (.fieldLink RX12 133 "SeatsRoundModel" "names" "I") (List.mem_of_getElem? (i := 2) rfl)) (fun _ h9 => h9) rfl (tyX12_ok 0 (by decide)) rfl rfl (Nat.le_of_ble_eq_true rfl) (oM_set_0 _ _ _ _ _) h dX12_comesName_50 (fun σ1 H locs h hP hD hS => ?_)
      exact ux_vret hx hb hr h hP hD hS hlocks dX12_comesName_53
    · have h := cdN hcd h
      refine lv_aload_n hx hb dX12_comesName_17 rfl (lv_at hl 0 rfl) ?_
      refine ux_get (D := (dC, dI)) (ci := 12) (v := .ref (ad 2)) (C := RX12) (T := TX12) (M := 59) (fs := (oM ad (σ.1 0))) hx hb hts (fun _ h9 => List.mem_cons_of_mem _ (List.mem_append_right _ h9)) hown hK hP 0 (Nat.le_of_ble_eq_true rfl) rfl rfl 2 (by decide) (hts (.fieldLink RX12 13 "SeatsRoundModel" "nameByte" "[I") (List.mem_of_getElem? (i := 3) rfl)) (fun _ h9 => h9) rfl dX12_comesName_18 ?_
      refine lv_bipush (v := 6) hx hb dX12_comesName_21 (by decide) ?_
      refine lv_aload_n hx hb dX12_comesName_23 rfl (lv_at hl 0 rfl) ?_
      refine ux_get (D := (dC, dI)) (ci := 12) (v := .int (σ.1 0 0)) (C := RX12) (T := TX12) (M := 59) (fs := (oM ad (σ.1 0))) hx hb hts (fun _ h9 => List.mem_cons_of_mem _ (List.mem_append_right _ h9)) hown hK hP 0 (Nat.le_of_ble_eq_true rfl) rfl rfl 0 (by decide) (hts (.fieldLink RX12 133 "SeatsRoundModel" "names" "I") (List.mem_of_getElem? (i := 2) rfl)) (fun _ h9 => h9) rfl dX12_comesName_24 ?_
      refine lv_imul hx hb dX12_comesName_27 ?_
      refine lv_iload_n hx hb dX12_comesName_28 rfl (lv_at hl 2 rfl) ?_
      refine lv_iadd hx hb dX12_comesName_29 ?_
      change W _ _ _ _ _ _ _ _ _ _ _ _ _ _ _ (F0 m 30 ls [.int ((6 * (σ.1 0 0)) + x2), .ref (ad 2)])
      refine lv_aload_n hx hb dX12_comesName_30 rfl (lv_at hl 0 rfl) ?_
      refine ux_get (D := (dC, dI)) (ci := 12) (v := .ref (ad 34)) (C := RX12) (T := TX12) (M := 59) (fs := (oM ad (σ.1 0))) hx hb hts (fun _ h9 => List.mem_cons_of_mem _ (List.mem_append_right _ h9)) hown hK hP 0 (Nat.le_of_ble_eq_true rfl) rfl rfl 43 (by decide) (hts (.fieldLink RX12 115 "SeatsRoundModel" "told" "[I") (List.mem_of_getElem? (i := 4) rfl)) (fun _ h9 => h9) rfl dX12_comesName_31 ?_
      refine lv_iload_n hx hb dX12_comesName_34 rfl (lv_at hl 2 rfl) ?_
      refine ux_iald hx hb hK hP 34 0 (Nat.le_of_ble_eq_true rfl) (cM_34 _ _ _ _) rfl h dX12_comesName_35 (fun v2 h => ?_)
      refine ux_iast hx hb hK hP hD hS 2 0 (Nat.le_of_ble_eq_true rfl) (fun _ => (cM_2 _ _ _ _)) rfl h dX12_comesName_36 (fun σ3 H locs h hP hD hS => ?_)
      obtain ⟨v4, ev4⟩ : ∃ y : Int32, y = x2 + 1 := ⟨_, rfl⟩
      have h := nmS h ev4
      refine lv_iinc (v := v4) (lv' := [(2, .int v4), (0, .ref (ad 0)), (1, .int x1)]) hx hb dX12_comesName_37 hl (k := 2) rfl (by rw [ev4]; rfl) (by decide) rfl (fun ls hl => ?_)
      have hl := lv_sub hl [1, 2, 0] (l' := [(0, .ref (ad 0)), (1, .int x1), (2, .int v4)]) rfl
      refine lv_goto (tgt := 12) hx hb dX12_comesName_40 (by decide) ?_
      exact ih σ3 x1 v4 H locs ls h hP hD hS hl
  have w0 : ∀ (σ : S2) (x1 : Int32) (H : Heap) (locs : List Loc) (ls : Array Slot), fX12_comesName_0 σ x1 = some (r0, σ9) → va_P (dC, dI) vwCl (wG (cM cy ad) ad 40 σ) H → va_D A (wG (cM cy ad) ad 40 σ) → va_S A s.heap H locs → lv_has ls 3 [(0, .ref (ad 0)), (1, .int x1)] → W p l e (headSpec wsX12_comesName ({ frames := 1, cells := 0, slots := 0, locals := 23 })).room s m (#[.ref (ad 0), .int a1]) below meth c H locs 0 0 (MQ below (va_Qv (fun (_ : Unit) => True) (fun (_ : Unit) t => wAt (dC, dI) A (wG (cM cy ad) ad 40 σ9) t) A) (#[.ref (ad 0), .int a1]) s 0 0 A) (F0 m 0 ls []) := by
    intro σ x1 H locs ls h hP hD hS hl
    unfold fX12_comesName_0 at h
    refine lv_aload_n hx hb dX12_comesName_0 rfl (lv_at hl 0 rfl) ?_
    refine ux_get (D := (dC, dI)) (ci := 12) (v := .ref (ad 1)) (C := RX12) (T := TX12) (M := 59) (fs := (oM ad (σ.1 0))) hx hb hts (fun _ h9 => List.mem_cons_of_mem _ (List.mem_append_right _ h9)) hown hK hP 0 (Nat.le_of_ble_eq_true rfl) rfl rfl 1 (by decide) (hts (.fieldLink RX12 7 "SeatsRoundModel" "nameSize" "[I") (List.mem_of_getElem? (i := 1) rfl)) (fun _ h9 => h9) rfl dX12_comesName_1 ?_
    refine lv_aload_n hx hb dX12_comesName_4 rfl (lv_at hl 0 rfl) ?_
    refine ux_get (D := (dC, dI)) (ci := 12) (v := .int (σ.1 0 0)) (C := RX12) (T := TX12) (M := 59) (fs := (oM ad (σ.1 0))) hx hb hts (fun _ h9 => List.mem_cons_of_mem _ (List.mem_append_right _ h9)) hown hK hP 0 (Nat.le_of_ble_eq_true rfl) rfl rfl 0 (by decide) (hts (.fieldLink RX12 133 "SeatsRoundModel" "names" "I") (List.mem_of_getElem? (i := 2) rfl)) (fun _ h9 => h9) rfl dX12_comesName_5 ?_
    refine lv_iload_n hx hb dX12_comesName_8 rfl (lv_at hl 1 rfl) ?_
    refine ux_iast hx hb hK hP hD hS 1 0 (Nat.le_of_ble_eq_true rfl) (fun _ => (cM_1 _ _ _ _)) rfl h dX12_comesName_9 (fun σ5 H locs h hP hD hS => ?_)
    refine lv_iconst (v := 0) hx hb dX12_comesName_10 (by decide) ?_
    refine lv_istore_n (lv' := [(2, .int 0), (0, .ref (ad 0)), (1, .int x1)]) hx hb dX12_comesName_11 rfl hl (by decide) rfl (fun ls hl => ?_)
    have hl := lv_sub hl [1, 2, 0] (l' := [(0, .ref (ad 0)), (1, .int x1), (2, .int 0)]) rfl
    exact w12 FU σ5 x1 0 H locs ls h hP hD hS hl
  intro H locs ls h hP hD hS hl
  exact w0 σ a1 H locs ls h hP hD hS (lv_sub hl [0, 1] rfl)

set_option maxHeartbeats 4000000 in
set_option maxRecDepth 100000 in
theorem tX12_name (l : Launch) (dC : Nat → ClassId) (dI : Nat → Nat → Nat) (cy : Nat → ClassId) (ad : Nat → Nat) (σ : S2)  (sz : Nat) (r0 : Int32) (σ9 : S2) (h : fX12_name σ = some (r0, σ9)) : Met l yX12_name wsX12_name ({ frames := 2, cells := 0, slots := 0, locals := 47 }) (va_Pc [.ref (ad 0)] (wPre (dC, dI) cy (wG (cM cy ad) ad 40 σ) sz)) (va_Qi (fun (r : Int32) (_ : Unit) => r = r0) (fun (_ : Unit) t => wAt (dC, dI) (va_A (wG (cM cy ad) ad 40 σ) sz) (wG (cM cy ad) ad 40 σ9) t) (va_A (wG (cM cy ad) ad 40 σ) sz)) 0 0 (va_A (wG (cM cy ad) ad 40 σ) sz) := by
  refine Met.ofW (cc := cX12_name) (maxL := 2) (ret := (some .int)) (by decide) rfl ?_
  intro p e s m args below meth c s₁ B hml hv
  obtain ⟨rfl, hsz, hP, hK, hD0, hN⟩ := hv
  have hx := B.exec
  have hb := B.bytes
  have hr := B.returns
  have hts := atoms_spec (ws := wsX12_name) B.pre
  have hown : s.vm.findClass RX12 = some m.cls := findClass_of_methodNamed B.named
  have hlocks := B.notSynchronized
  subst hsz
  have hD := hD0.self (sz := s.heap.size)
  generalize hAe : va_A (wG (cM cy ad) ad 40 σ) s.heap.size = A at hD ⊢
  have hA : ∀ q : Nat, s.heap.size ≤ q → A q := fun q h => by rw [← hAe]; exact Or.inr h
  have hS : va_S A s.heap s.heap [] := va_S.rf
  have hl := lv_entry ([.ref (ad 0)]) (n := 2) (Nat.le_of_ble_eq_true rfl)
  rw [lg_entry_eq]
  generalize (lg_sl ([.ref (ad 0)]) ++ List.replicate (2 - (lg_sl ([.ref (ad 0)])).length) Slot.unset).toArray = ls at hl ⊢
  have hl : lv_has ls 2 [(0, .ref (ad 0))] := hl
  unfold fX12_name at h
  clear hAe hD0
  suffices HH : ∀ (H : Heap) (locs : List Loc) (ls : Array Slot), fX12_name_0 σ = some (r0, σ9) → va_P (dC, dI) vwCl (wG (cM cy ad) ad 40 σ) H → va_D A (wG (cM cy ad) ad 40 σ) → va_S A s.heap H locs → lv_has ls 2 [(0, .ref (ad 0))] → W p l e (headSpec wsX12_name ({ frames := 2, cells := 0, slots := 0, locals := 47 })).room s m (#[.ref (ad 0)]) below meth c H locs 0 0 (MQ below (va_Qi (fun (r : Int32) (_ : Unit) => r = r0) (fun (_ : Unit) t => wAt (dC, dI) A (wG (cM cy ad) ad 40 σ9) t) A) (#[.ref (ad 0)]) s 0 0 A) (F0 m 0 ls []) from HH s.heap [] ls h hP hD hS hl
  have w85 : ∀ (σ : S2) (x1 : Int32) (H : Heap) (locs : List Loc) (ls : Array Slot), fX12_name_85 σ x1 = some (r0, σ9) → va_P (dC, dI) vwCl (wG (cM cy ad) ad 40 σ) H → va_D A (wG (cM cy ad) ad 40 σ) → va_S A s.heap H locs → lv_has ls 2 [(0, .ref (ad 0)), (1, .int x1)] → W p l e (headSpec wsX12_name ({ frames := 2, cells := 0, slots := 0, locals := 47 })).room s m (#[.ref (ad 0)]) below meth c H locs 0 0 (MQ below (va_Qi (fun (r : Int32) (_ : Unit) => r = r0) (fun (_ : Unit) t => wAt (dC, dI) A (wG (cM cy ad) ad 40 σ9) t) A) (#[.ref (ad 0)]) s 0 0 A) (F0 m 85 ls []) := by
    intro σ x1 H locs ls h hP hD hS hl
    unfold fX12_name_85 at h
    refine lv_aload_n hx hb dX12_name_85 rfl (lv_at hl 0 rfl) ?_
    refine lv_iconst (v := 0) hx hb dX12_name_86 (by decide) ?_
    refine ux_put (D := (dC, dI)) (ci := 12) (C := RX12) (T := TX12) (M := 59) (fs := (oM ad (σ.1 0))) hx hb hts (fun _ h9 => List.mem_cons_of_mem _ (List.mem_append_right _ h9)) tyX12 tyX12_ok nmX12 hown hK hP hD hS 0 (Nat.le_of_ble_eq_true rfl) rfl rfl 22 (by decide) (hts (.fieldLink RX12 146 "SeatsRoundModel" "taped" "I") (List.mem_of_getElem? (i := 1) rfl)) (fun _ h9 => h9) rfl (tyX12_ok 22 (by decide)) rfl rfl (Nat.le_of_ble_eq_true rfl) (oM_set_22 _ _ _ _ _) h dX12_name_87 (fun σ1 H locs h hP hD hS => ?_)
    refine lv_iload_n hx hb dX12_name_90 rfl (lv_at hl 1 rfl) ?_
    exact ux_iret hx hb hr h hP hD hS hlocks dX12_name_91
  have w68 : ∀ (σ : S2) (x1 : Int32) (H : Heap) (locs : List Loc) (ls : Array Slot), fX12_name_68 σ x1 = some (r0, σ9) → va_P (dC, dI) vwCl (wG (cM cy ad) ad 40 σ) H → va_D A (wG (cM cy ad) ad 40 σ) → va_S A s.heap H locs → lv_has ls 2 [(0, .ref (ad 0)), (1, .int x1)] → W p l e (headSpec wsX12_name ({ frames := 2, cells := 0, slots := 0, locals := 47 })).room s m (#[.ref (ad 0)]) below meth c H locs 0 0 (MQ below (va_Qi (fun (r : Int32) (_ : Unit) => r = r0) (fun (_ : Unit) t => wAt (dC, dI) A (wG (cM cy ad) ad 40 σ9) t) A) (#[.ref (ad 0)]) s 0 0 A) (F0 m 68 ls []) := by
    intro σ x1 H locs ls h hP hD hS hl
    unfold fX12_name_68 at h
    refine lv_iload_n hx hb dX12_name_68 rfl (lv_at hl 1 rfl) ?_
    refine lv_if_ge (tgt := 85) hx hb dX12_name_69 (by decide) (fun hcd => ?_) (fun hcd => ?_)
    · have h := cdP hcd h
      exact w85 σ x1 H locs ls h hP hD hS hl
    · have h := cdN hcd h
      refine lv_aload_n hx hb dX12_name_72 rfl (lv_at hl 0 rfl) ?_
      refine ux_get (D := (dC, dI)) (ci := 12) (v := .int (σ.1 0 0)) (C := RX12) (T := TX12) (M := 59) (fs := (oM ad (σ.1 0))) hx hb hts (fun _ h9 => List.mem_cons_of_mem _ (List.mem_append_right _ h9)) hown hK hP 0 (Nat.le_of_ble_eq_true rfl) rfl rfl 0 (by decide) (hts (.fieldLink RX12 133 "SeatsRoundModel" "names" "I") (List.mem_of_getElem? (i := 4) rfl)) (fun _ h9 => h9) rfl dX12_name_73 ?_
      refine lv_topi (fun v2 ev2 => ?_)
      have h := nmS h ev2
      refine lv_istore_n (lv' := [(1, .int v2), (0, .ref (ad 0))]) hx hb dX12_name_76 rfl hl (by decide) rfl (fun ls hl => ?_)
      have hl := lv_sub hl [1, 0] (l' := [(0, .ref (ad 0)), (1, .int v2)]) rfl
      refine lv_aload_n hx hb dX12_name_77 rfl (lv_at hl 0 rfl) ?_
      refine lv_aload_n hx hb dX12_name_78 rfl (lv_at hl 0 rfl) ?_
      refine ux_get (D := (dC, dI)) (ci := 12) (v := .int (σ.1 0 22)) (C := RX12) (T := TX12) (M := 59) (fs := (oM ad (σ.1 0))) hx hb hts (fun _ h9 => List.mem_cons_of_mem _ (List.mem_append_right _ h9)) hown hK hP 0 (Nat.le_of_ble_eq_true rfl) rfl rfl 22 (by decide) (hts (.fieldLink RX12 146 "SeatsRoundModel" "taped" "I") (List.mem_of_getElem? (i := 1) rfl)) (fun _ h9 => h9) rfl dX12_name_79 ?_
      obtain ⟨r3, σ4, hf5, h⟩ := bsS h
      refine ux_callv (va_runV (As := [.int (σ.1 0 22)]) (rest := []) ⟨hx, hb, hml, hown, hts⟩ (tX12_comesName l dC dI cy ad σ (σ.1 0 22) H.size r3 σ4 hf5) (cwV 1 hts gX12_name_X12_comesName rfl rfl rfl (by decide +kernel) ⟨Nat.le_of_ble_eq_true rfl, Nat.le_of_ble_eq_true rfl⟩) (wp_V hK hN hP hD (va_recv hK hP (ci := 12) (q0 := 0) rfl (wG_of (Nat.le_of_ble_eq_true rfl) rfl))) rfl rfl hl.1 rfl (lv_room (Nat.le_of_ble_eq_true rfl)) dX12_name_82 ⟨Nat.le_of_ble_eq_true rfl, Nat.le_of_ble_eq_true rfl⟩) hD hS hA (fun H locs hP hD hS => ?_)
      exact w85 σ4 v2 H locs ls h hP hD hS hl
  have w17 : ∀ (n : Nat), ∀ (σ : S2) (x1 : Int32) (H : Heap) (locs : List Loc) (ls : Array Slot), fX12_name_17 n σ x1 = some (r0, σ9) → va_P (dC, dI) vwCl (wG (cM cy ad) ad 40 σ) H → va_D A (wG (cM cy ad) ad 40 σ) → va_S A s.heap H locs → lv_has ls 2 [(0, .ref (ad 0)), (1, .int x1)] → W p l e (headSpec wsX12_name ({ frames := 2, cells := 0, slots := 0, locals := 47 })).room s m (#[.ref (ad 0)]) below meth c H locs 0 0 (MQ below (va_Qi (fun (r : Int32) (_ : Unit) => r = r0) (fun (_ : Unit) t => wAt (dC, dI) A (wG (cM cy ad) ad 40 σ9) t) A) (#[.ref (ad 0)]) s 0 0 A) (F0 m 17 ls []) := by
    intro n
    induction n with
    | zero => intro σ x1 H locs ls h; cases h
    | succ n ih =>
    intro σ x1 H locs ls h hP hD hS hl
    unfold fX12_name_17 at h
    refine lv_iload_n hx hb dX12_name_17 rfl (lv_at hl 1 rfl) ?_
    refine lv_aload_n hx hb dX12_name_18 rfl (lv_at hl 0 rfl) ?_
    refine ux_get (D := (dC, dI)) (ci := 12) (v := .int (σ.1 0 22)) (C := RX12) (T := TX12) (M := 59) (fs := (oM ad (σ.1 0))) hx hb hts (fun _ h9 => List.mem_cons_of_mem _ (List.mem_append_right _ h9)) hown hK hP 0 (Nat.le_of_ble_eq_true rfl) rfl rfl 22 (by decide) (hts (.fieldLink RX12 146 "SeatsRoundModel" "taped" "I") (List.mem_of_getElem? (i := 1) rfl)) (fun _ h9 => h9) rfl dX12_name_19 ?_
    refine lv_icmp_ge (tgt := 43) hx hb dX12_name_22 (by decide) (fun hcd => ?_) (fun hcd => ?_)
    · have h := cdP hcd h
      refine lv_aload_n hx hb dX12_name_43 rfl (lv_at hl 0 rfl) ?_
      refine lv_aload_n hx hb dX12_name_44 rfl (lv_at hl 0 rfl) ?_
      refine ux_get (D := (dC, dI)) (ci := 12) (v := .int (σ.1 0 22)) (C := RX12) (T := TX12) (M := 59) (fs := (oM ad (σ.1 0))) hx hb hts (fun _ h9 => List.mem_cons_of_mem _ (List.mem_append_right _ h9)) hown hK hP 0 (Nat.le_of_ble_eq_true rfl) rfl rfl 22 (by decide) (hts (.fieldLink RX12 146 "SeatsRoundModel" "taped" "I") (List.mem_of_getElem? (i := 1) rfl)) (fun _ h9 => h9) rfl dX12_name_45 ?_
      obtain ⟨r6, hf7, h⟩ := biS h
      refine ux_calli (va_runV (As := [.int (σ.1 0 22)]) (rest := []) ⟨hx, hb, hml, hown, hts⟩ (tX12_found l dC dI cy ad σ (σ.1 0 22) H.size r6 hf7) (cwV 1 hts gX12_name_X12_found rfl rfl rfl (by decide +kernel) ⟨Nat.le_of_ble_eq_true rfl, Nat.le_of_ble_eq_true rfl⟩) (wp_V hK hN hP hD (va_recv hK hP (ci := 12) (q0 := 0) rfl (wG_of (Nat.le_of_ble_eq_true rfl) rfl))) rfl rfl hl.1 rfl (lv_room (Nat.le_of_ble_eq_true rfl)) dX12_name_48 ⟨Nat.le_of_ble_eq_true rfl, Nat.le_of_ble_eq_true rfl⟩) hD hS hA (fun H locs hP hD hS => ?_)
      refine lv_istore_n (lv' := [(1, .int r6), (0, .ref (ad 0))]) hx hb dX12_name_51 rfl hl (by decide) rfl (fun ls hl => ?_)
      have hl := lv_sub hl [1, 0] (l' := [(0, .ref (ad 0)), (1, .int r6)]) rfl
      refine lv_iload_n hx hb dX12_name_52 rfl (lv_at hl 1 rfl) ?_
      refine lv_if_ge (tgt := 68) hx hb dX12_name_53 (by decide) (fun hcd => ?_) (fun hcd => ?_)
      · have h := cdP hcd h
        exact w68 σ r6 H locs ls h hP hD hS hl
      · have h := cdN hcd h
        refine lv_aload_n hx hb dX12_name_56 rfl (lv_at hl 0 rfl) ?_
        refine ux_get (D := (dC, dI)) (ci := 12) (v := .int (σ.1 0 0)) (C := RX12) (T := TX12) (M := 59) (fs := (oM ad (σ.1 0))) hx hb hts (fun _ h9 => List.mem_cons_of_mem _ (List.mem_append_right _ h9)) hown hK hP 0 (Nat.le_of_ble_eq_true rfl) rfl rfl 0 (by decide) (hts (.fieldLink RX12 133 "SeatsRoundModel" "names" "I") (List.mem_of_getElem? (i := 4) rfl)) (fun _ h9 => h9) rfl dX12_name_57 ?_
        refine lv_bipush (v := 40) hx hb dX12_name_60 (by decide) ?_
        refine lv_icmp_ne (tgt := 68) hx hb dX12_name_62 (by decide) (fun hcd => ?_) (fun hcd => ?_)
        · have h := cdN hcd h
          exact w68 σ r6 H locs ls h hP hD hS hl
        · have h := cdP hcd h
          refine lv_bipush (v := (-3)) hx hb dX12_name_65 (by decide) ?_
          exact ux_iret hx hb hr h hP hD hS hlocks dX12_name_67
    · have h := cdN hcd h
      refine lv_aload_n hx hb dX12_name_25 rfl (lv_at hl 0 rfl) ?_
      refine ux_get (D := (dC, dI)) (ci := 12) (v := .ref (ad 34)) (C := RX12) (T := TX12) (M := 59) (fs := (oM ad (σ.1 0))) hx hb hts (fun _ h9 => List.mem_cons_of_mem _ (List.mem_append_right _ h9)) hown hK hP 0 (Nat.le_of_ble_eq_true rfl) rfl rfl 43 (by decide) (hts (.fieldLink RX12 115 "SeatsRoundModel" "told" "[I") (List.mem_of_getElem? (i := 2) rfl)) (fun _ h9 => h9) rfl dX12_name_26 ?_
      refine lv_iload_n hx hb dX12_name_29 rfl (lv_at hl 1 rfl) ?_
      refine lv_aload_n hx hb dX12_name_30 rfl (lv_at hl 0 rfl) ?_
      refine ux_get (D := (dC, dI)) (ci := 12) (v := .ref (ad 19)) (C := RX12) (T := TX12) (M := 59) (fs := (oM ad (σ.1 0))) hx hb hts (fun _ h9 => List.mem_cons_of_mem _ (List.mem_append_right _ h9)) hown hK hP 0 (Nat.le_of_ble_eq_true rfl) rfl rfl 21 (by decide) (hts (.fieldLink RX12 65 "SeatsRoundModel" "tape" "[I") (List.mem_of_getElem? (i := 3) rfl)) (fun _ h9 => h9) rfl dX12_name_31 ?_
      refine lv_iload_n hx hb dX12_name_34 rfl (lv_at hl 1 rfl) ?_
      refine ux_iald hx hb hK hP 19 0 (Nat.le_of_ble_eq_true rfl) (cM_19 _ _ _ _) rfl h dX12_name_35 (fun v8 h => ?_)
      refine ux_iast hx hb hK hP hD hS 34 0 (Nat.le_of_ble_eq_true rfl) (fun _ => (cM_34 _ _ _ _)) rfl h dX12_name_36 (fun σ9 H locs h hP hD hS => ?_)
      obtain ⟨v10, ev10⟩ : ∃ y : Int32, y = x1 + 1 := ⟨_, rfl⟩
      have h := nmS h ev10
      refine lv_iinc (v := v10) (lv' := [(1, .int v10), (0, .ref (ad 0))]) hx hb dX12_name_37 hl (k := 1) rfl (by rw [ev10]; rfl) (by decide) rfl (fun ls hl => ?_)
      have hl := lv_sub hl [1, 0] (l' := [(0, .ref (ad 0)), (1, .int v10)]) rfl
      refine lv_goto (tgt := 17) hx hb dX12_name_40 (by decide) ?_
      exact ih σ9 v10 H locs ls h hP hD hS hl
  have w0 : ∀ (σ : S2)  (H : Heap) (locs : List Loc) (ls : Array Slot), fX12_name_0 σ = some (r0, σ9) → va_P (dC, dI) vwCl (wG (cM cy ad) ad 40 σ) H → va_D A (wG (cM cy ad) ad 40 σ) → va_S A s.heap H locs → lv_has ls 2 [(0, .ref (ad 0))] → W p l e (headSpec wsX12_name ({ frames := 2, cells := 0, slots := 0, locals := 47 })).room s m (#[.ref (ad 0)]) below meth c H locs 0 0 (MQ below (va_Qi (fun (r : Int32) (_ : Unit) => r = r0) (fun (_ : Unit) t => wAt (dC, dI) A (wG (cM cy ad) ad 40 σ9) t) A) (#[.ref (ad 0)]) s 0 0 A) (F0 m 0 ls []) := by
    intro σ H locs ls h hP hD hS hl
    unfold fX12_name_0 at h
    refine lv_aload_n hx hb dX12_name_0 rfl (lv_at hl 0 rfl) ?_
    refine ux_get (D := (dC, dI)) (ci := 12) (v := .int (σ.1 0 22)) (C := RX12) (T := TX12) (M := 59) (fs := (oM ad (σ.1 0))) hx hb hts (fun _ h9 => List.mem_cons_of_mem _ (List.mem_append_right _ h9)) hown hK hP 0 (Nat.le_of_ble_eq_true rfl) rfl rfl 22 (by decide) (hts (.fieldLink RX12 146 "SeatsRoundModel" "taped" "I") (List.mem_of_getElem? (i := 1) rfl)) (fun _ h9 => h9) rfl dX12_name_1 ?_
    refine lv_iconst (v := 1) hx hb dX12_name_4 (by decide) ?_
    refine lv_bipush (v := 6) hx hb dX12_name_5 (by decide) ?_
    obtain ⟨r11, hf12, h⟩ := biS h
    refine ux_calli (va_runS (As := [.int (σ.1 0 22), .int 1, .int 6]) (rest := []) ⟨hx, hb, hml, hown, hts⟩ (tX12_in l dC dI cy ad σ (σ.1 0 22) 1 6 H.size r11 hf12) (va_cwS 3 hts gX12_name_X12_in rfl rfl rfl (by decide +kernel) ⟨Nat.le_of_ble_eq_true rfl, Nat.le_of_ble_eq_true rfl⟩) (wp_S hK hN hP hD) rfl rfl hl.1 rfl (lv_room (Nat.le_of_ble_eq_true rfl)) dX12_name_7 ⟨Nat.le_of_ble_eq_true rfl, Nat.le_of_ble_eq_true rfl⟩) hD hS hA (fun H locs hP hD hS => ?_)
    refine lv_if_ne (tgt := 15) hx hb dX12_name_10 (by decide) (fun hcd => ?_) (fun hcd => ?_)
    · have h := cdN hcd h
      refine lv_iconst (v := 0) hx hb dX12_name_15 (by decide) ?_
      refine lv_istore_n (lv' := [(1, .int 0), (0, .ref (ad 0))]) hx hb dX12_name_16 rfl hl (by decide) rfl (fun ls hl => ?_)
      have hl := lv_sub hl [1, 0] (l' := [(0, .ref (ad 0)), (1, .int 0)]) rfl
      exact w17 FU σ 0 H locs ls h hP hD hS hl
    · have h := cdP hcd h
      refine lv_iconst (v := (-1)) hx hb dX12_name_13 (by decide) ?_
      exact ux_iret hx hb hr h hP hD hS hlocks dX12_name_14
  intro H locs ls h hP hD hS hl
  exact w0 σ H locs ls h hP hD hS (lv_sub hl [0] rfl)

set_option maxHeartbeats 4000000 in
set_option maxRecDepth 100000 in
theorem tX12_numberOf (l : Launch) (dC : Nat → ClassId) (dI : Nat → Nat → Nat) (cy : Nat → ClassId) (ad : Nat → Nat) (σ : S2) (a1 : Int32) (a2 : Int32) (sz : Nat) (r0 : Int32) (h : fX12_numberOf σ a1 a2 = some r0) : Met l yX12_numberOf wsX12_numberOf ({ frames := 1, cells := 0, slots := 0, locals := 23 }) (va_Pc [.ref (ad 0), .int a1, .int a2] (wPre (dC, dI) cy (wG (cM cy ad) ad 40 σ) sz)) (va_Qi (fun (r : Int32) (_ : Unit) => r = r0) (fun (_ : Unit) t => wAt (dC, dI) (va_A (wG (cM cy ad) ad 40 σ) sz) (wG (cM cy ad) ad 40 σ) t) (va_A (wG (cM cy ad) ad 40 σ) sz)) 0 0 (va_A (wG (cM cy ad) ad 40 σ) sz) := by
  refine Met.ofW (cc := cX12_numberOf) (maxL := 5) (ret := (some .int)) (by decide) rfl ?_
  intro p e s m args below meth c s₁ B hml hv
  obtain ⟨rfl, hsz, hP, hK, hD0, hN⟩ := hv
  have hx := B.exec
  have hb := B.bytes
  have hr := B.returns
  have hts := atoms_spec (ws := wsX12_numberOf) B.pre
  have hown : s.vm.findClass RX12 = some m.cls := findClass_of_methodNamed B.named
  have hlocks := B.notSynchronized
  subst hsz
  have hD := hD0.self (sz := s.heap.size)
  generalize hAe : va_A (wG (cM cy ad) ad 40 σ) s.heap.size = A at hD ⊢
  have hA : ∀ q : Nat, s.heap.size ≤ q → A q := fun q h => by rw [← hAe]; exact Or.inr h
  have hS : va_S A s.heap s.heap [] := va_S.rf
  have hl := lv_entry ([.ref (ad 0), .int a1, .int a2]) (n := 5) (Nat.le_of_ble_eq_true rfl)
  rw [lg_entry_eq]
  generalize (lg_sl ([.ref (ad 0), .int a1, .int a2]) ++ List.replicate (5 - (lg_sl ([.ref (ad 0), .int a1, .int a2])).length) Slot.unset).toArray = ls at hl ⊢
  have hl : lv_has ls 5 [(0, .ref (ad 0)), (1, .int a1), (2, .int a2)] := hl
  unfold fX12_numberOf at h
  clear hAe hD0
  suffices HH : ∀ (H : Heap) (locs : List Loc) (ls : Array Slot), fX12_numberOf_0 σ a1 a2 = some r0 → va_P (dC, dI) vwCl (wG (cM cy ad) ad 40 σ) H → va_D A (wG (cM cy ad) ad 40 σ) → va_S A s.heap H locs → lv_has ls 5 [(0, .ref (ad 0)), (1, .int a1), (2, .int a2)] → W p l e (headSpec wsX12_numberOf ({ frames := 1, cells := 0, slots := 0, locals := 23 })).room s m (#[.ref (ad 0), .int a1, .int a2]) below meth c H locs 0 0 (MQ below (va_Qi (fun (r : Int32) (_ : Unit) => r = r0) (fun (_ : Unit) t => wAt (dC, dI) A (wG (cM cy ad) ad 40 σ) t) A) (#[.ref (ad 0), .int a1, .int a2]) s 0 0 A) (F0 m 0 ls []) from HH s.heap [] ls h hP hD hS hl
  have w5 : ∀ (n : Nat), ∀ (σ : S2) (x1 : Int32) (x3 : Int32) (x4 : Int32) (H : Heap) (locs : List Loc) (ls : Array Slot), fX12_numberOf_5 n σ x1 x3 x4 = some r0 → va_P (dC, dI) vwCl (wG (cM cy ad) ad 40 σ) H → va_D A (wG (cM cy ad) ad 40 σ) → va_S A s.heap H locs → lv_has ls 5 [(0, .ref (ad 0)), (1, .int x1), (3, .int x3), (4, .int x4)] → W p l e (headSpec wsX12_numberOf ({ frames := 1, cells := 0, slots := 0, locals := 23 })).room s m (#[.ref (ad 0), .int a1, .int a2]) below meth c H locs 0 0 (MQ below (va_Qi (fun (r : Int32) (_ : Unit) => r = r0) (fun (_ : Unit) t => wAt (dC, dI) A (wG (cM cy ad) ad 40 σ) t) A) (#[.ref (ad 0), .int a1, .int a2]) s 0 0 A) (F0 m 5 ls []) := by
    intro n
    induction n with
    | zero => intro σ x1 x3 x4 H locs ls h; cases h
    | succ n ih =>
    intro σ x1 x3 x4 H locs ls h hP hD hS hl
    unfold fX12_numberOf_5 at h
    refine lv_iload hx hb dX12_numberOf_5 (lv_at hl 3 rfl) ?_
    refine lv_aload_n hx hb dX12_numberOf_7 rfl (lv_at hl 0 rfl) ?_
    refine ux_get (D := (dC, dI)) (ci := 12) (v := .ref (ad 1)) (C := RX12) (T := TX12) (M := 59) (fs := (oM ad (σ.1 0))) hx hb hts (fun _ h9 => List.mem_cons_of_mem _ (List.mem_append_right _ h9)) hown hK hP 0 (Nat.le_of_ble_eq_true rfl) rfl rfl 1 (by decide) (hts (.fieldLink RX12 7 "SeatsRoundModel" "nameSize" "[I") (List.mem_of_getElem? (i := 1) rfl)) (fun _ h9 => h9) rfl dX12_numberOf_8 ?_
    refine lv_iload_n hx hb dX12_numberOf_11 rfl (lv_at hl 1 rfl) ?_
    refine ux_iald hx hb hK hP 1 0 (Nat.le_of_ble_eq_true rfl) (cM_1 _ _ _ _) rfl h dX12_numberOf_12 (fun v1 h => ?_)
    refine lv_icmp_ge (tgt := 40) hx hb dX12_numberOf_13 (by decide) (fun hcd => ?_) (fun hcd => ?_)
    · have h := cdP hcd h
      refine lv_iload_n hx hb dX12_numberOf_40 rfl (lv_at hl 2 rfl) ?_
      refine lv_bipush (v := 7) hx hb dX12_numberOf_41 (by decide) ?_
      refine lv_iushr hx hb dX12_numberOf_43 rfl ?_
      refine lv_sipush (v := 1000) hx hb dX12_numberOf_44 (by decide) ?_
      obtain ⟨hz2, h⟩ := dzS h
      refine lv_irem hx hb dX12_numberOf_47 hz2 ?_
      exact ux_iretP hx hb hr h hP hD hS hlocks dX12_numberOf_48
    · have h := cdN hcd h
      refine lv_iload_n hx hb dX12_numberOf_16 rfl (lv_at hl 2 rfl) ?_
      refine lv_aload_n hx hb dX12_numberOf_17 rfl (lv_at hl 0 rfl) ?_
      refine ux_get (D := (dC, dI)) (ci := 12) (v := .ref (ad 2)) (C := RX12) (T := TX12) (M := 59) (fs := (oM ad (σ.1 0))) hx hb hts (fun _ h9 => List.mem_cons_of_mem _ (List.mem_append_right _ h9)) hown hK hP 0 (Nat.le_of_ble_eq_true rfl) rfl rfl 2 (by decide) (hts (.fieldLink RX12 13 "SeatsRoundModel" "nameByte" "[I") (List.mem_of_getElem? (i := 2) rfl)) (fun _ h9 => h9) rfl dX12_numberOf_18 ?_
      refine lv_bipush (v := 6) hx hb dX12_numberOf_21 (by decide) ?_
      refine lv_iload_n hx hb dX12_numberOf_23 rfl (lv_at hl 1 rfl) ?_
      refine lv_imul hx hb dX12_numberOf_24 ?_
      refine lv_iload hx hb dX12_numberOf_25 (lv_at hl 3 rfl) ?_
      refine lv_iadd hx hb dX12_numberOf_27 ?_
      change W _ _ _ _ _ _ _ _ _ _ _ _ _ _ _ (F0 m 28 ls [.int ((6 * x1) + x4), .ref (ad 2), .int x3])
      refine ux_iald hx hb hK hP 2 0 (Nat.le_of_ble_eq_true rfl) (cM_2 _ _ _ _) rfl h dX12_numberOf_28 (fun v3 h => ?_)
      refine lv_ixor hx hb dX12_numberOf_29 ?_
      refine lv_ldc hx hb hown (hts (.constant RX12 157 (16777619)) (List.mem_of_getElem? (i := 3) rfl)) dX12_numberOf_30 ?_
      refine lv_imul hx hb dX12_numberOf_32 ?_
      refine lv_topi (fun v4 ev4 => ?_)
      have h := nmS h ev4
      refine lv_istore_n (lv' := [(3, .int v4), (0, .ref (ad 0)), (1, .int x1), (4, .int x4)]) hx hb dX12_numberOf_33 rfl hl (by decide) rfl (fun ls hl => ?_)
      have hl := lv_sub hl [1, 2, 0, 3] (l' := [(0, .ref (ad 0)), (1, .int x1), (3, .int v4), (4, .int x4)]) rfl
      obtain ⟨v5, ev5⟩ : ∃ y : Int32, y = x4 + 1 := ⟨_, rfl⟩
      have h := nmS h ev5
      refine lv_iinc (v := v5) (lv' := [(4, .int v5), (0, .ref (ad 0)), (1, .int x1), (3, .int v4)]) hx hb dX12_numberOf_34 hl (k := 3) rfl (by rw [ev5]; rfl) (by decide) rfl (fun ls hl => ?_)
      have hl := lv_sub hl [1, 2, 3, 0] (l' := [(0, .ref (ad 0)), (1, .int x1), (3, .int v4), (4, .int v5)]) rfl
      refine lv_goto (tgt := 5) hx hb dX12_numberOf_37 (by decide) ?_
      exact ih σ x1 v4 v5 H locs ls h hP hD hS hl
  have w0 : ∀ (σ : S2) (x1 : Int32) (x2 : Int32) (H : Heap) (locs : List Loc) (ls : Array Slot), fX12_numberOf_0 σ x1 x2 = some r0 → va_P (dC, dI) vwCl (wG (cM cy ad) ad 40 σ) H → va_D A (wG (cM cy ad) ad 40 σ) → va_S A s.heap H locs → lv_has ls 5 [(0, .ref (ad 0)), (1, .int x1), (2, .int x2)] → W p l e (headSpec wsX12_numberOf ({ frames := 1, cells := 0, slots := 0, locals := 23 })).room s m (#[.ref (ad 0), .int a1, .int a2]) below meth c H locs 0 0 (MQ below (va_Qi (fun (r : Int32) (_ : Unit) => r = r0) (fun (_ : Unit) t => wAt (dC, dI) A (wG (cM cy ad) ad 40 σ) t) A) (#[.ref (ad 0), .int a1, .int a2]) s 0 0 A) (F0 m 0 ls []) := by
    intro σ x1 x2 H locs ls h hP hD hS hl
    unfold fX12_numberOf_0 at h
    refine lv_iload_n hx hb dX12_numberOf_0 rfl (lv_at hl 2 rfl) ?_
    refine lv_istore_n (lv' := [(3, .int x2), (0, .ref (ad 0)), (1, .int x1), (2, .int x2)]) hx hb dX12_numberOf_1 rfl hl (by decide) rfl (fun ls hl => ?_)
    have hl := lv_sub hl [1, 2, 3, 0] (l' := [(0, .ref (ad 0)), (1, .int x1), (2, .int x2), (3, .int x2)]) rfl
    refine lv_iconst (v := 0) hx hb dX12_numberOf_2 (by decide) ?_
    refine lv_istore (lv' := [(4, .int 0), (0, .ref (ad 0)), (1, .int x1), (2, .int x2), (3, .int x2)]) hx hb dX12_numberOf_3 hl (by decide) rfl (fun ls hl => ?_)
    have hl := lv_sub hl [1, 2, 3, 4, 0] (l' := [(0, .ref (ad 0)), (1, .int x1), (2, .int x2), (3, .int x2), (4, .int 0)]) rfl
    exact w5 FU σ x1 x2 0 H locs ls h hP hD hS (lv_sub hl [0, 1, 3, 4] rfl)
  intro H locs ls h hP hD hS hl
  exact w0 σ a1 a2 H locs ls h hP hD hS (lv_sub hl [0, 1, 2] rfl)

set_option maxHeartbeats 4000000 in
set_option maxRecDepth 100000 in
theorem tX12_number (l : Launch) (dC : Nat → ClassId) (dI : Nat → Nat → Nat) (cy : Nat → ClassId) (ad : Nat → Nat) (σ : S2) (a1 : Int32) (a2 : Int32) (sz : Nat) (r0 : Int32) (h : fX12_number σ a1 a2 = some r0) : Met l yX12_number wsX12_number ({ frames := 3, cells := 0, slots := 0, locals := 66 }) (va_Pc [.ref (ad 0), .int a1, .int a2] (wPre (dC, dI) cy (wG (cM cy ad) ad 40 σ) sz)) (va_Qi (fun (r : Int32) (_ : Unit) => r = r0) (fun (_ : Unit) t => wAt (dC, dI) (va_A (wG (cM cy ad) ad 40 σ) sz) (wG (cM cy ad) ad 40 σ) t) (va_A (wG (cM cy ad) ad 40 σ) sz)) 0 0 (va_A (wG (cM cy ad) ad 40 σ) sz) := by
  refine Met.ofW (cc := cX12_number) (maxL := 3) (ret := (some .int)) (by decide) rfl ?_
  intro p e s m args below meth c s₁ B hml hv
  obtain ⟨rfl, hsz, hP, hK, hD0, hN⟩ := hv
  have hx := B.exec
  have hb := B.bytes
  have hr := B.returns
  have hts := atoms_spec (ws := wsX12_number) B.pre
  have hown : s.vm.findClass RX12 = some m.cls := findClass_of_methodNamed B.named
  have hlocks := B.notSynchronized
  subst hsz
  have hD := hD0.self (sz := s.heap.size)
  generalize hAe : va_A (wG (cM cy ad) ad 40 σ) s.heap.size = A at hD ⊢
  have hA : ∀ q : Nat, s.heap.size ≤ q → A q := fun q h => by rw [← hAe]; exact Or.inr h
  have hS : va_S A s.heap s.heap [] := va_S.rf
  have hl := lv_entry ([.ref (ad 0), .int a1, .int a2]) (n := 3) (Nat.le_of_ble_eq_true rfl)
  rw [lg_entry_eq]
  generalize (lg_sl ([.ref (ad 0), .int a1, .int a2]) ++ List.replicate (3 - (lg_sl ([.ref (ad 0), .int a1, .int a2])).length) Slot.unset).toArray = ls at hl ⊢
  have hl : lv_has ls 3 [(0, .ref (ad 0)), (1, .int a1), (2, .int a2)] := hl
  unfold fX12_number at h
  clear hAe hD0
  suffices HH : ∀ (H : Heap) (locs : List Loc) (ls : Array Slot), fX12_number_0 σ a1 a2 = some r0 → va_P (dC, dI) vwCl (wG (cM cy ad) ad 40 σ) H → va_D A (wG (cM cy ad) ad 40 σ) → va_S A s.heap H locs → lv_has ls 3 [(0, .ref (ad 0)), (1, .int a1), (2, .int a2)] → W p l e (headSpec wsX12_number ({ frames := 3, cells := 0, slots := 0, locals := 66 })).room s m (#[.ref (ad 0), .int a1, .int a2]) below meth c H locs 0 0 (MQ below (va_Qi (fun (r : Int32) (_ : Unit) => r = r0) (fun (_ : Unit) t => wAt (dC, dI) A (wG (cM cy ad) ad 40 σ) t) A) (#[.ref (ad 0), .int a1, .int a2]) s 0 0 A) (F0 m 0 ls []) from HH s.heap [] ls h hP hD hS hl
  have w0 : ∀ (σ : S2) (x1 : Int32) (x2 : Int32) (H : Heap) (locs : List Loc) (ls : Array Slot), fX12_number_0 σ x1 x2 = some r0 → va_P (dC, dI) vwCl (wG (cM cy ad) ad 40 σ) H → va_D A (wG (cM cy ad) ad 40 σ) → va_S A s.heap H locs → lv_has ls 3 [(0, .ref (ad 0)), (1, .int x1), (2, .int x2)] → W p l e (headSpec wsX12_number ({ frames := 3, cells := 0, slots := 0, locals := 66 })).room s m (#[.ref (ad 0), .int a1, .int a2]) below meth c H locs 0 0 (MQ below (va_Qi (fun (r : Int32) (_ : Unit) => r = r0) (fun (_ : Unit) t => wAt (dC, dI) A (wG (cM cy ad) ad 40 σ) t) A) (#[.ref (ad 0), .int a1, .int a2]) s 0 0 A) (F0 m 0 ls []) := by
    intro σ x1 x2 H locs ls h hP hD hS hl
    unfold fX12_number_0 at h
    refine lv_aload_n hx hb dX12_number_0 rfl (lv_at hl 0 rfl) ?_
    refine lv_iload_n hx hb dX12_number_1 rfl (lv_at hl 1 rfl) ?_
    obtain ⟨r1, hf2, h⟩ := biS h
    refine ux_calli (va_runV (As := [.int x1]) (rest := []) ⟨hx, hb, hml, hown, hts⟩ (tX12_isName l dC dI cy ad σ x1 H.size r1 hf2) (cwV 1 hts gX12_number_X12_isName rfl rfl rfl (by decide +kernel) ⟨Nat.le_of_ble_eq_true rfl, Nat.le_of_ble_eq_true rfl⟩) (wp_V hK hN hP hD (va_recv hK hP (ci := 12) (q0 := 0) rfl (wG_of (Nat.le_of_ble_eq_true rfl) rfl))) rfl rfl hl.1 rfl (lv_room (Nat.le_of_ble_eq_true rfl)) dX12_number_2 ⟨Nat.le_of_ble_eq_true rfl, Nat.le_of_ble_eq_true rfl⟩) hD hS hA (fun H locs hP hD hS => ?_)
    refine lv_if_eq (tgt := 17) hx hb dX12_number_5 (by decide) (fun hcd => ?_) (fun hcd => ?_)
    · have h := cdP hcd h
      refine lv_iconst (v := (-1)) hx hb dX12_number_17 (by decide) ?_
      exact ux_iretP hx hb hr h hP hD hS hlocks dX12_number_18
    · have h := cdN hcd h
      refine lv_aload_n hx hb dX12_number_8 rfl (lv_at hl 0 rfl) ?_
      refine lv_iload_n hx hb dX12_number_9 rfl (lv_at hl 1 rfl) ?_
      refine lv_iload_n hx hb dX12_number_10 rfl (lv_at hl 2 rfl) ?_
      obtain ⟨r3, hf4, h⟩ := biS h
      refine ux_calli (va_runV (As := [.int x1, .int x2]) (rest := []) ⟨hx, hb, hml, hown, hts⟩ (tX12_numberOf l dC dI cy ad σ x1 x2 H.size r3 hf4) (cwV 2 hts gX12_number_X12_numberOf rfl rfl rfl (by decide +kernel) ⟨Nat.le_of_ble_eq_true rfl, Nat.le_of_ble_eq_true rfl⟩) (wp_V hK hN hP hD (va_recv hK hP (ci := 12) (q0 := 0) rfl (wG_of (Nat.le_of_ble_eq_true rfl) rfl))) rfl rfl hl.1 rfl (lv_room (Nat.le_of_ble_eq_true rfl)) dX12_number_11 ⟨Nat.le_of_ble_eq_true rfl, Nat.le_of_ble_eq_true rfl⟩) hD hS hA (fun H locs hP hD hS => ?_)
      refine lv_goto (tgt := 18) hx hb dX12_number_14 (by decide) ?_
      exact ux_iretP hx hb hr h hP hD hS hlocks dX12_number_18
  intro H locs ls h hP hD hS hl
  exact w0 σ a1 a2 H locs ls h hP hD hS (lv_sub hl [0, 1, 2] rfl)

set_option maxHeartbeats 4000000 in
set_option maxRecDepth 100000 in
theorem tX12_keeper (l : Launch) (dC : Nat → ClassId) (dI : Nat → Nat → Nat) (cy : Nat → ClassId) (ad : Nat → Nat) (σ : S2) (a1 : Int32) (a2 : Int32) (sz : Nat) (r0 : Int32) (σ9 : S2) (h : fX12_keeper σ a1 a2 = some (r0, σ9)) : Met l yX12_keeper wsX12_keeper ({ frames := 2, cells := 0, slots := 0, locals := 45 }) (va_Pc [.ref (ad 0), .int a1, .int a2] (wPre (dC, dI) cy (wG (cM cy ad) ad 40 σ) sz)) (va_Qi (fun (r : Int32) (_ : Unit) => r = r0) (fun (_ : Unit) t => wAt (dC, dI) (va_A (wG (cM cy ad) ad 40 σ) sz) (wG (cM cy ad) ad 40 σ9) t) (va_A (wG (cM cy ad) ad 40 σ) sz)) 0 0 (va_A (wG (cM cy ad) ad 40 σ) sz) := by
  refine Met.ofW (cc := cX12_keeper) (maxL := 3) (ret := (some .int)) (by decide) rfl ?_
  intro p e s m args below meth c s₁ B hml hv
  obtain ⟨rfl, hsz, hP, hK, hD0, hN⟩ := hv
  have hx := B.exec
  have hb := B.bytes
  have hr := B.returns
  have hts := atoms_spec (ws := wsX12_keeper) B.pre
  have hown : s.vm.findClass RX12 = some m.cls := findClass_of_methodNamed B.named
  have hlocks := B.notSynchronized
  subst hsz
  have hD := hD0.self (sz := s.heap.size)
  generalize hAe : va_A (wG (cM cy ad) ad 40 σ) s.heap.size = A at hD ⊢
  have hA : ∀ q : Nat, s.heap.size ≤ q → A q := fun q h => by rw [← hAe]; exact Or.inr h
  have hS : va_S A s.heap s.heap [] := va_S.rf
  have hl := lv_entry ([.ref (ad 0), .int a1, .int a2]) (n := 3) (Nat.le_of_ble_eq_true rfl)
  rw [lg_entry_eq]
  generalize (lg_sl ([.ref (ad 0), .int a1, .int a2]) ++ List.replicate (3 - (lg_sl ([.ref (ad 0), .int a1, .int a2])).length) Slot.unset).toArray = ls at hl ⊢
  have hl : lv_has ls 3 [(0, .ref (ad 0)), (1, .int a1), (2, .int a2)] := hl
  unfold fX12_keeper at h
  clear hAe hD0
  suffices HH : ∀ (H : Heap) (locs : List Loc) (ls : Array Slot), fX12_keeper_0 σ a1 a2 = some (r0, σ9) → va_P (dC, dI) vwCl (wG (cM cy ad) ad 40 σ) H → va_D A (wG (cM cy ad) ad 40 σ) → va_S A s.heap H locs → lv_has ls 3 [(0, .ref (ad 0)), (1, .int a1), (2, .int a2)] → W p l e (headSpec wsX12_keeper ({ frames := 2, cells := 0, slots := 0, locals := 45 })).room s m (#[.ref (ad 0), .int a1, .int a2]) below meth c H locs 0 0 (MQ below (va_Qi (fun (r : Int32) (_ : Unit) => r = r0) (fun (_ : Unit) t => wAt (dC, dI) A (wG (cM cy ad) ad 40 σ9) t) A) (#[.ref (ad 0), .int a1, .int a2]) s 0 0 A) (F0 m 0 ls []) from HH s.heap [] ls h hP hD hS hl
  have w0 : ∀ (σ : S2) (x1 : Int32) (x2 : Int32) (H : Heap) (locs : List Loc) (ls : Array Slot), fX12_keeper_0 σ x1 x2 = some (r0, σ9) → va_P (dC, dI) vwCl (wG (cM cy ad) ad 40 σ) H → va_D A (wG (cM cy ad) ad 40 σ) → va_S A s.heap H locs → lv_has ls 3 [(0, .ref (ad 0)), (1, .int x1), (2, .int x2)] → W p l e (headSpec wsX12_keeper ({ frames := 2, cells := 0, slots := 0, locals := 45 })).room s m (#[.ref (ad 0), .int a1, .int a2]) below meth c H locs 0 0 (MQ below (va_Qi (fun (r : Int32) (_ : Unit) => r = r0) (fun (_ : Unit) t => wAt (dC, dI) A (wG (cM cy ad) ad 40 σ9) t) A) (#[.ref (ad 0), .int a1, .int a2]) s 0 0 A) (F0 m 0 ls []) := by
    intro σ x1 x2 H locs ls h hP hD hS hl
    unfold fX12_keeper_0 at h
    refine lv_iload_n hx hb dX12_keeper_0 rfl (lv_at hl 1 rfl) ?_
    refine lv_iconst (v := 0) hx hb dX12_keeper_1 (by decide) ?_
    refine lv_iconst (v := 5) hx hb dX12_keeper_2 (by decide) ?_
    obtain ⟨r1, hf2, h⟩ := biS h
    refine ux_calli (va_runS (As := [.int x1, .int 0, .int 5]) (rest := []) ⟨hx, hb, hml, hown, hts⟩ (tX12_in l dC dI cy ad σ x1 0 5 H.size r1 hf2) (va_cwS 3 hts gX12_keeper_X12_in rfl rfl rfl (by decide +kernel) ⟨Nat.le_of_ble_eq_true rfl, Nat.le_of_ble_eq_true rfl⟩) (wp_S hK hN hP hD) rfl rfl hl.1 rfl (lv_room (Nat.le_of_ble_eq_true rfl)) dX12_keeper_3 ⟨Nat.le_of_ble_eq_true rfl, Nat.le_of_ble_eq_true rfl⟩) hD hS hA (fun H locs hP hD hS => ?_)
    refine lv_if_eq (tgt := 19) hx hb dX12_keeper_6 (by decide) (fun hcd => ?_) (fun hcd => ?_)
    · have h := cdP hcd h
      refine lv_iconst (v := (-1)) hx hb dX12_keeper_19 (by decide) ?_
      exact ux_iret hx hb hr h hP hD hS hlocks dX12_keeper_20
    · have h := cdN hcd h
      refine lv_iload_n hx hb dX12_keeper_9 rfl (lv_at hl 2 rfl) ?_
      refine lv_iconst (v := 1) hx hb dX12_keeper_10 (by decide) ?_
      refine lv_bipush (v := 8) hx hb dX12_keeper_11 (by decide) ?_
      obtain ⟨r3, hf4, h⟩ := biS h
      refine ux_calli (va_runS (As := [.int x2, .int 1, .int 8]) (rest := []) ⟨hx, hb, hml, hown, hts⟩ (tX12_in l dC dI cy ad σ x2 1 8 H.size r3 hf4) (va_cwS 3 hts gX12_keeper_X12_in rfl rfl rfl (by decide +kernel) ⟨Nat.le_of_ble_eq_true rfl, Nat.le_of_ble_eq_true rfl⟩) (wp_S hK hN hP hD) rfl rfl hl.1 rfl (lv_room (Nat.le_of_ble_eq_true rfl)) dX12_keeper_13 ⟨Nat.le_of_ble_eq_true rfl, Nat.le_of_ble_eq_true rfl⟩) hD hS hA (fun H locs hP hD hS => ?_)
      refine lv_if_ne (tgt := 21) hx hb dX12_keeper_16 (by decide) (fun hcd => ?_) (fun hcd => ?_)
      · have h := cdN hcd h
        refine lv_aload_n hx hb dX12_keeper_21 rfl (lv_at hl 0 rfl) ?_
        refine ux_get (D := (dC, dI)) (ci := 12) (v := .int (σ.1 0 3)) (C := RX12) (T := TX12) (M := 59) (fs := (oM ad (σ.1 0))) hx hb hts (fun _ h9 => List.mem_cons_of_mem _ (List.mem_append_right _ h9)) hown hK hP 0 (Nat.le_of_ble_eq_true rfl) rfl rfl 3 (by decide) (hts (.fieldLink RX12 140 "SeatsRoundModel" "keepers" "I") (List.mem_of_getElem? (i := 1) rfl)) (fun _ h9 => h9) rfl dX12_keeper_22 ?_
        refine lv_bipush (v := 12) hx hb dX12_keeper_25 (by decide) ?_
        refine lv_icmp_ne (tgt := 33) hx hb dX12_keeper_27 (by decide) (fun hcd => ?_) (fun hcd => ?_)
        · have h := cdN hcd h
          refine lv_aload_n hx hb dX12_keeper_33 rfl (lv_at hl 0 rfl) ?_
          refine ux_get (D := (dC, dI)) (ci := 12) (v := .ref (ad 3)) (C := RX12) (T := TX12) (M := 59) (fs := (oM ad (σ.1 0))) hx hb hts (fun _ h9 => List.mem_cons_of_mem _ (List.mem_append_right _ h9)) hown hK hP 0 (Nat.le_of_ble_eq_true rfl) rfl rfl 4 (by decide) (hts (.fieldLink RX12 16 "SeatsRoundModel" "street" "[I") (List.mem_of_getElem? (i := 2) rfl)) (fun _ h9 => h9) rfl dX12_keeper_34 ?_
          refine lv_aload_n hx hb dX12_keeper_37 rfl (lv_at hl 0 rfl) ?_
          refine ux_get (D := (dC, dI)) (ci := 12) (v := .int (σ.1 0 3)) (C := RX12) (T := TX12) (M := 59) (fs := (oM ad (σ.1 0))) hx hb hts (fun _ h9 => List.mem_cons_of_mem _ (List.mem_append_right _ h9)) hown hK hP 0 (Nat.le_of_ble_eq_true rfl) rfl rfl 3 (by decide) (hts (.fieldLink RX12 140 "SeatsRoundModel" "keepers" "I") (List.mem_of_getElem? (i := 1) rfl)) (fun _ h9 => h9) rfl dX12_keeper_38 ?_
          refine lv_iload_n hx hb dX12_keeper_41 rfl (lv_at hl 1 rfl) ?_
          refine ux_iast hx hb hK hP hD hS 3 0 (Nat.le_of_ble_eq_true rfl) (fun _ => (cM_3 _ _ _ _)) rfl h dX12_keeper_42 (fun σ5 H locs h hP hD hS => ?_)
          refine lv_aload_n hx hb dX12_keeper_43 rfl (lv_at hl 0 rfl) ?_
          refine ux_get (D := (dC, dI)) (ci := 12) (v := .ref (ad 4)) (C := RX12) (T := TX12) (M := 59) (fs := (oM ad (σ5.1 0))) hx hb hts (fun _ h9 => List.mem_cons_of_mem _ (List.mem_append_right _ h9)) hown hK hP 0 (Nat.le_of_ble_eq_true rfl) rfl rfl 5 (by decide) (hts (.fieldLink RX12 19 "SeatsRoundModel" "strength" "[I") (List.mem_of_getElem? (i := 3) rfl)) (fun _ h9 => h9) rfl dX12_keeper_44 ?_
          refine lv_aload_n hx hb dX12_keeper_47 rfl (lv_at hl 0 rfl) ?_
          refine ux_get (D := (dC, dI)) (ci := 12) (v := .int (σ5.1 0 3)) (C := RX12) (T := TX12) (M := 59) (fs := (oM ad (σ5.1 0))) hx hb hts (fun _ h9 => List.mem_cons_of_mem _ (List.mem_append_right _ h9)) hown hK hP 0 (Nat.le_of_ble_eq_true rfl) rfl rfl 3 (by decide) (hts (.fieldLink RX12 140 "SeatsRoundModel" "keepers" "I") (List.mem_of_getElem? (i := 1) rfl)) (fun _ h9 => h9) rfl dX12_keeper_48 ?_
          refine lv_iload_n hx hb dX12_keeper_51 rfl (lv_at hl 2 rfl) ?_
          refine ux_iast hx hb hK hP hD hS 4 0 (Nat.le_of_ble_eq_true rfl) (fun _ => (cM_4 _ _ _ _)) rfl h dX12_keeper_52 (fun σ6 H locs h hP hD hS => ?_)
          refine lv_aload_n hx hb dX12_keeper_53 rfl (lv_at hl 0 rfl) ?_
          refine lv_dup hx hb dX12_keeper_54 rfl ?_
          refine ux_get (D := (dC, dI)) (ci := 12) (v := .int (σ6.1 0 3)) (C := RX12) (T := TX12) (M := 59) (fs := (oM ad (σ6.1 0))) hx hb hts (fun _ h9 => List.mem_cons_of_mem _ (List.mem_append_right _ h9)) hown hK hP 0 (Nat.le_of_ble_eq_true rfl) rfl rfl 3 (by decide) (hts (.fieldLink RX12 140 "SeatsRoundModel" "keepers" "I") (List.mem_of_getElem? (i := 1) rfl)) (fun _ h9 => h9) rfl dX12_keeper_55 ?_
          refine lv_iconst (v := 1) hx hb dX12_keeper_58 (by decide) ?_
          refine lv_iadd hx hb dX12_keeper_59 ?_
          refine ux_put (D := (dC, dI)) (ci := 12) (C := RX12) (T := TX12) (M := 59) (fs := (oM ad (σ6.1 0))) hx hb hts (fun _ h9 => List.mem_cons_of_mem _ (List.mem_append_right _ h9)) tyX12 tyX12_ok nmX12 hown hK hP hD hS 0 (Nat.le_of_ble_eq_true rfl) rfl rfl 3 (by decide) (hts (.fieldLink RX12 140 "SeatsRoundModel" "keepers" "I") (List.mem_of_getElem? (i := 1) rfl)) (fun _ h9 => h9) rfl (tyX12_ok 3 (by decide)) rfl rfl (Nat.le_of_ble_eq_true rfl) (oM_set_3 _ _ _ _ _) h dX12_keeper_60 (fun σ7 H locs h hP hD hS => ?_)
          refine lv_aload_n hx hb dX12_keeper_63 rfl (lv_at hl 0 rfl) ?_
          refine ux_get (D := (dC, dI)) (ci := 12) (v := .int (σ7.1 0 3)) (C := RX12) (T := TX12) (M := 59) (fs := (oM ad (σ7.1 0))) hx hb hts (fun _ h9 => List.mem_cons_of_mem _ (List.mem_append_right _ h9)) hown hK hP 0 (Nat.le_of_ble_eq_true rfl) rfl rfl 3 (by decide) (hts (.fieldLink RX12 140 "SeatsRoundModel" "keepers" "I") (List.mem_of_getElem? (i := 1) rfl)) (fun _ h9 => h9) rfl dX12_keeper_64 ?_
          refine lv_iconst (v := 1) hx hb dX12_keeper_67 (by decide) ?_
          refine lv_isub hx hb dX12_keeper_68 ?_
          exact ux_iret hx hb hr h hP hD hS hlocks dX12_keeper_69
        · have h := cdP hcd h
          refine lv_bipush (v := (-3)) hx hb dX12_keeper_30 (by decide) ?_
          exact ux_iret hx hb hr h hP hD hS hlocks dX12_keeper_32
      · have h := cdP hcd h
        refine lv_iconst (v := (-1)) hx hb dX12_keeper_19 (by decide) ?_
        exact ux_iret hx hb hr h hP hD hS hlocks dX12_keeper_20
  intro H locs ls h hP hD hS hl
  exact w0 σ a1 a2 H locs ls h hP hD hS (lv_sub hl [0, 1, 2] rfl)

set_option maxHeartbeats 4000000 in
set_option maxRecDepth 100000 in
theorem tX12_countsNow (l : Launch) (dC : Nat → ClassId) (dI : Nat → Nat → Nat) (cy : Nat → ClassId) (ad : Nat → Nat) (σ : S2) (a1 : Int32) (sz : Nat) (r0 : Int32) (h : fX12_countsNow σ a1 = some r0) : Met l yX12_countsNow wsX12_countsNow ({ frames := 1, cells := 0, slots := 0, locals := 23 }) (va_Pc [.ref (ad 0), .int a1] (wPre (dC, dI) cy (wG (cM cy ad) ad 40 σ) sz)) (va_Qi (fun (r : Int32) (_ : Unit) => r = r0) (fun (_ : Unit) t => wAt (dC, dI) (va_A (wG (cM cy ad) ad 40 σ) sz) (wG (cM cy ad) ad 40 σ) t) (va_A (wG (cM cy ad) ad 40 σ) sz)) 0 0 (va_A (wG (cM cy ad) ad 40 σ) sz) := by
  refine Met.ofW (cc := cX12_countsNow) (maxL := 2) (ret := (some .int)) (by decide) rfl ?_
  intro p e s m args below meth c s₁ B hml hv
  obtain ⟨rfl, hsz, hP, hK, hD0, hN⟩ := hv
  have hx := B.exec
  have hb := B.bytes
  have hr := B.returns
  have hts := atoms_spec (ws := wsX12_countsNow) B.pre
  have hown : s.vm.findClass RX12 = some m.cls := findClass_of_methodNamed B.named
  have hlocks := B.notSynchronized
  subst hsz
  have hD := hD0.self (sz := s.heap.size)
  generalize hAe : va_A (wG (cM cy ad) ad 40 σ) s.heap.size = A at hD ⊢
  have hA : ∀ q : Nat, s.heap.size ≤ q → A q := fun q h => by rw [← hAe]; exact Or.inr h
  have hS : va_S A s.heap s.heap [] := va_S.rf
  have hl := lv_entry ([.ref (ad 0), .int a1]) (n := 2) (Nat.le_of_ble_eq_true rfl)
  rw [lg_entry_eq]
  generalize (lg_sl ([.ref (ad 0), .int a1]) ++ List.replicate (2 - (lg_sl ([.ref (ad 0), .int a1])).length) Slot.unset).toArray = ls at hl ⊢
  have hl : lv_has ls 2 [(0, .ref (ad 0)), (1, .int a1)] := hl
  unfold fX12_countsNow at h
  clear hAe hD0
  suffices HH : ∀ (H : Heap) (locs : List Loc) (ls : Array Slot), fX12_countsNow_0 σ a1 = some r0 → va_P (dC, dI) vwCl (wG (cM cy ad) ad 40 σ) H → va_D A (wG (cM cy ad) ad 40 σ) → va_S A s.heap H locs → lv_has ls 2 [(0, .ref (ad 0)), (1, .int a1)] → W p l e (headSpec wsX12_countsNow ({ frames := 1, cells := 0, slots := 0, locals := 23 })).room s m (#[.ref (ad 0), .int a1]) below meth c H locs 0 0 (MQ below (va_Qi (fun (r : Int32) (_ : Unit) => r = r0) (fun (_ : Unit) t => wAt (dC, dI) A (wG (cM cy ad) ad 40 σ) t) A) (#[.ref (ad 0), .int a1]) s 0 0 A) (F0 m 0 ls []) from HH s.heap [] ls h hP hD hS hl
  have w21 : ∀ (σ : S2) (x1 : Int32) (H : Heap) (locs : List Loc) (ls : Array Slot), fX12_countsNow_21 σ x1 = some r0 → va_P (dC, dI) vwCl (wG (cM cy ad) ad 40 σ) H → va_D A (wG (cM cy ad) ad 40 σ) → va_S A s.heap H locs → lv_has ls 2 [(0, .ref (ad 0)), (1, .int x1)] → W p l e (headSpec wsX12_countsNow ({ frames := 1, cells := 0, slots := 0, locals := 23 })).room s m (#[.ref (ad 0), .int a1]) below meth c H locs 0 0 (MQ below (va_Qi (fun (r : Int32) (_ : Unit) => r = r0) (fun (_ : Unit) t => wAt (dC, dI) A (wG (cM cy ad) ad 40 σ) t) A) (#[.ref (ad 0), .int a1]) s 0 0 A) (F0 m 21 ls []) := by
    intro σ x1 H locs ls h hP hD hS hl
    unfold fX12_countsNow_21 at h
    refine lv_iconst (v := 2) hx hb dX12_countsNow_21 (by decide) ?_
    refine lv_aload_n hx hb dX12_countsNow_22 rfl (lv_at hl 0 rfl) ?_
    refine ux_get (D := (dC, dI)) (ci := 12) (v := .ref (ad 4)) (C := RX12) (T := TX12) (M := 59) (fs := (oM ad (σ.1 0))) hx hb hts (fun _ h9 => List.mem_cons_of_mem _ (List.mem_append_right _ h9)) hown hK hP 0 (Nat.le_of_ble_eq_true rfl) rfl rfl 5 (by decide) (hts (.fieldLink RX12 19 "SeatsRoundModel" "strength" "[I") (List.mem_of_getElem? (i := 2) rfl)) (fun _ h9 => h9) rfl dX12_countsNow_23 ?_
    refine lv_iload_n hx hb dX12_countsNow_26 rfl (lv_at hl 1 rfl) ?_
    refine ux_iald hx hb hK hP 4 0 (Nat.le_of_ble_eq_true rfl) (cM_4 _ _ _ _) rfl h dX12_countsNow_27 (fun v1 h => ?_)
    refine lv_imul hx hb dX12_countsNow_28 ?_
    refine lv_goto (tgt := 38) hx hb dX12_countsNow_29 (by decide) ?_
    exact ux_iretP hx hb hr h hP hD hS hlocks dX12_countsNow_38
  have w0 : ∀ (σ : S2) (x1 : Int32) (H : Heap) (locs : List Loc) (ls : Array Slot), fX12_countsNow_0 σ x1 = some r0 → va_P (dC, dI) vwCl (wG (cM cy ad) ad 40 σ) H → va_D A (wG (cM cy ad) ad 40 σ) → va_S A s.heap H locs → lv_has ls 2 [(0, .ref (ad 0)), (1, .int x1)] → W p l e (headSpec wsX12_countsNow ({ frames := 1, cells := 0, slots := 0, locals := 23 })).room s m (#[.ref (ad 0), .int a1]) below meth c H locs 0 0 (MQ below (va_Qi (fun (r : Int32) (_ : Unit) => r = r0) (fun (_ : Unit) t => wAt (dC, dI) A (wG (cM cy ad) ad 40 σ) t) A) (#[.ref (ad 0), .int a1]) s 0 0 A) (F0 m 0 ls []) := by
    intro σ x1 H locs ls h hP hD hS hl
    unfold fX12_countsNow_0 at h
    refine lv_aload_n hx hb dX12_countsNow_0 rfl (lv_at hl 0 rfl) ?_
    refine ux_get (D := (dC, dI)) (ci := 12) (v := .ref (ad 5)) (C := RX12) (T := TX12) (M := 59) (fs := (oM ad (σ.1 0))) hx hb hts (fun _ h9 => List.mem_cons_of_mem _ (List.mem_append_right _ h9)) hown hK hP 0 (Nat.le_of_ble_eq_true rfl) rfl rfl 6 (by decide) (hts (.fieldLink RX12 22 "SeatsRoundModel" "kind" "[I") (List.mem_of_getElem? (i := 1) rfl)) (fun _ h9 => h9) rfl dX12_countsNow_1 ?_
    refine lv_iload_n hx hb dX12_countsNow_4 rfl (lv_at hl 1 rfl) ?_
    refine ux_iald hx hb hK hP 5 0 (Nat.le_of_ble_eq_true rfl) (cM_5 _ _ _ _) rfl h dX12_countsNow_5 (fun v2 h => ?_)
    refine lv_iconst (v := 1) hx hb dX12_countsNow_6 (by decide) ?_
    refine lv_icmp_eq (tgt := 21) hx hb dX12_countsNow_7 (by decide) (fun hcd => ?_) (fun hcd => ?_)
    · have h := cdP hcd h
      exact w21 σ x1 H locs ls h hP hD hS hl
    · have h := cdN hcd h
      refine lv_aload_n hx hb dX12_countsNow_10 rfl (lv_at hl 0 rfl) ?_
      refine ux_get (D := (dC, dI)) (ci := 12) (v := .ref (ad 5)) (C := RX12) (T := TX12) (M := 59) (fs := (oM ad (σ.1 0))) hx hb hts (fun _ h9 => List.mem_cons_of_mem _ (List.mem_append_right _ h9)) hown hK hP 0 (Nat.le_of_ble_eq_true rfl) rfl rfl 6 (by decide) (hts (.fieldLink RX12 22 "SeatsRoundModel" "kind" "[I") (List.mem_of_getElem? (i := 1) rfl)) (fun _ h9 => h9) rfl dX12_countsNow_11 ?_
      refine lv_iload_n hx hb dX12_countsNow_14 rfl (lv_at hl 1 rfl) ?_
      refine ux_iald hx hb hK hP 5 0 (Nat.le_of_ble_eq_true rfl) (cM_5 _ _ _ _) rfl h dX12_countsNow_15 (fun v3 h => ?_)
      refine lv_bipush (v := 6) hx hb dX12_countsNow_16 (by decide) ?_
      refine lv_icmp_ne (tgt := 32) hx hb dX12_countsNow_18 (by decide) (fun hcd => ?_) (fun hcd => ?_)
      · have h := cdN hcd h
        refine lv_aload_n hx hb dX12_countsNow_32 rfl (lv_at hl 0 rfl) ?_
        refine ux_get (D := (dC, dI)) (ci := 12) (v := .ref (ad 4)) (C := RX12) (T := TX12) (M := 59) (fs := (oM ad (σ.1 0))) hx hb hts (fun _ h9 => List.mem_cons_of_mem _ (List.mem_append_right _ h9)) hown hK hP 0 (Nat.le_of_ble_eq_true rfl) rfl rfl 5 (by decide) (hts (.fieldLink RX12 19 "SeatsRoundModel" "strength" "[I") (List.mem_of_getElem? (i := 2) rfl)) (fun _ h9 => h9) rfl dX12_countsNow_33 ?_
        refine lv_iload_n hx hb dX12_countsNow_36 rfl (lv_at hl 1 rfl) ?_
        refine ux_iald hx hb hK hP 4 0 (Nat.le_of_ble_eq_true rfl) (cM_4 _ _ _ _) rfl h dX12_countsNow_37 (fun v4 h => ?_)
        exact ux_iretP hx hb hr h hP hD hS hlocks dX12_countsNow_38
      · have h := cdP hcd h
        exact w21 σ x1 H locs ls h hP hD hS hl
  intro H locs ls h hP hD hS hl
  exact w0 σ a1 H locs ls h hP hD hS (lv_sub hl [0, 1] rfl)

set_option maxHeartbeats 4000000 in
set_option maxRecDepth 100000 in
theorem tX12_become (l : Launch) (dC : Nat → ClassId) (dI : Nat → Nat → Nat) (cy : Nat → ClassId) (ad : Nat → Nat) (σ : S2) (a1 : Int32) (a2 : Int32) (sz : Nat) (r0 : Int32) (σ9 : S2) (h : fX12_become σ a1 a2 = some (r0, σ9)) : Met l yX12_become wsX12_become ({ frames := 3, cells := 0, slots := 0, locals := 66 }) (va_Pc [.ref (ad 0), .int a1, .int a2] (wPre (dC, dI) cy (wG (cM cy ad) ad 40 σ) sz)) (va_Qi (fun (r : Int32) (_ : Unit) => r = r0) (fun (_ : Unit) t => wAt (dC, dI) (va_A (wG (cM cy ad) ad 40 σ) sz) (wG (cM cy ad) ad 40 σ9) t) (va_A (wG (cM cy ad) ad 40 σ) sz)) 0 0 (va_A (wG (cM cy ad) ad 40 σ) sz) := by
  refine Met.ofW (cc := cX12_become) (maxL := 6) (ret := (some .int)) (by decide) rfl ?_
  intro p e s m args below meth c s₁ B hml hv
  obtain ⟨rfl, hsz, hP, hK, hD0, hN⟩ := hv
  have hx := B.exec
  have hb := B.bytes
  have hr := B.returns
  have hts := atoms_spec (ws := wsX12_become) B.pre
  have hown : s.vm.findClass RX12 = some m.cls := findClass_of_methodNamed B.named
  have hlocks := B.notSynchronized
  subst hsz
  have hD := hD0.self (sz := s.heap.size)
  generalize hAe : va_A (wG (cM cy ad) ad 40 σ) s.heap.size = A at hD ⊢
  have hA : ∀ q : Nat, s.heap.size ≤ q → A q := fun q h => by rw [← hAe]; exact Or.inr h
  have hS : va_S A s.heap s.heap [] := va_S.rf
  have hl := lv_entry ([.ref (ad 0), .int a1, .int a2]) (n := 6) (Nat.le_of_ble_eq_true rfl)
  rw [lg_entry_eq]
  generalize (lg_sl ([.ref (ad 0), .int a1, .int a2]) ++ List.replicate (6 - (lg_sl ([.ref (ad 0), .int a1, .int a2])).length) Slot.unset).toArray = ls at hl ⊢
  have hl : lv_has ls 6 [(0, .ref (ad 0)), (1, .int a1), (2, .int a2)] := hl
  unfold fX12_become at h
  clear hAe hD0
  suffices HH : ∀ (H : Heap) (locs : List Loc) (ls : Array Slot), fX12_become_0 σ a1 a2 = some (r0, σ9) → va_P (dC, dI) vwCl (wG (cM cy ad) ad 40 σ) H → va_D A (wG (cM cy ad) ad 40 σ) → va_S A s.heap H locs → lv_has ls 6 [(0, .ref (ad 0)), (1, .int a1), (2, .int a2)] → W p l e (headSpec wsX12_become ({ frames := 3, cells := 0, slots := 0, locals := 66 })).room s m (#[.ref (ad 0), .int a1, .int a2]) below meth c H locs 0 0 (MQ below (va_Qi (fun (r : Int32) (_ : Unit) => r = r0) (fun (_ : Unit) t => wAt (dC, dI) A (wG (cM cy ad) ad 40 σ9) t) A) (#[.ref (ad 0), .int a1, .int a2]) s 0 0 A) (F0 m 0 ls []) from HH s.heap [] ls h hP hD hS hl
  have w136 : ∀ (k37 : S2 → Int32 → Int32 → Int32 → Int32 → Option (Int32 × S2)) (hk37 : ∀ (σ : S2) (x1 : Int32) (x2 : Int32) (x3 : Int32) (x4 : Int32) (H : Heap) (locs : List Loc) (ls : Array Slot), k37 σ x1 x2 x3 x4 = some (r0, σ9) → va_P (dC, dI) vwCl (wG (cM cy ad) ad 40 σ) H → va_D A (wG (cM cy ad) ad 40 σ) → va_S A s.heap H locs → lv_has ls 6 [(0, .ref (ad 0)), (1, .int x1), (2, .int x2), (3, .int x3), (4, .int x4)] → W p l e (headSpec wsX12_become ({ frames := 3, cells := 0, slots := 0, locals := 66 })).room s m (#[.ref (ad 0), .int a1, .int a2]) below meth c H locs 0 0 (MQ below (va_Qi (fun (r : Int32) (_ : Unit) => r = r0) (fun (_ : Unit) t => wAt (dC, dI) A (wG (cM cy ad) ad 40 σ9) t) A) (#[.ref (ad 0), .int a1, .int a2]) s 0 0 A) (F0 m 37 ls [])) , ∀ (σ : S2) (x1 : Int32) (x2 : Int32) (x3 : Int32) (x4 : Int32) (H : Heap) (locs : List Loc) (ls : Array Slot), fX12_become_136 k37 σ x1 x2 x3 x4 = some (r0, σ9) → va_P (dC, dI) vwCl (wG (cM cy ad) ad 40 σ) H → va_D A (wG (cM cy ad) ad 40 σ) → va_S A s.heap H locs → lv_has ls 6 [(0, .ref (ad 0)), (1, .int x1), (2, .int x2), (3, .int x3), (4, .int x4)] → W p l e (headSpec wsX12_become ({ frames := 3, cells := 0, slots := 0, locals := 66 })).room s m (#[.ref (ad 0), .int a1, .int a2]) below meth c H locs 0 0 (MQ below (va_Qi (fun (r : Int32) (_ : Unit) => r = r0) (fun (_ : Unit) t => wAt (dC, dI) A (wG (cM cy ad) ad 40 σ9) t) A) (#[.ref (ad 0), .int a1, .int a2]) s 0 0 A) (F0 m 136 ls []) := by
    intro k37 hk37 σ x1 x2 x3 x4 H locs ls h hP hD hS hl
    unfold fX12_become_136 at h
    obtain ⟨v1, ev1⟩ : ∃ y : Int32, y = x4 + 1 := ⟨_, rfl⟩
    have h := nmS h ev1
    refine lv_iinc (v := v1) (lv' := [(4, .int v1), (0, .ref (ad 0)), (1, .int x1), (2, .int x2), (3, .int x3)]) hx hb dX12_become_136 hl (k := 4) rfl (by rw [ev1]; rfl) (by decide) rfl (fun ls hl => ?_)
    have hl := lv_sub hl [1, 2, 3, 4, 0] (l' := [(0, .ref (ad 0)), (1, .int x1), (2, .int x2), (3, .int x3), (4, .int v1)]) rfl
    refine lv_goto (tgt := 37) hx hb dX12_become_139 (by decide) ?_
    exact hk37 σ x1 x2 x3 v1 H locs ls h hP hD hS hl
  have w118 : ∀ (k37 : S2 → Int32 → Int32 → Int32 → Int32 → Option (Int32 × S2)) (hk37 : ∀ (σ : S2) (x1 : Int32) (x2 : Int32) (x3 : Int32) (x4 : Int32) (H : Heap) (locs : List Loc) (ls : Array Slot), k37 σ x1 x2 x3 x4 = some (r0, σ9) → va_P (dC, dI) vwCl (wG (cM cy ad) ad 40 σ) H → va_D A (wG (cM cy ad) ad 40 σ) → va_S A s.heap H locs → lv_has ls 6 [(0, .ref (ad 0)), (1, .int x1), (2, .int x2), (3, .int x3), (4, .int x4)] → W p l e (headSpec wsX12_become ({ frames := 3, cells := 0, slots := 0, locals := 66 })).room s m (#[.ref (ad 0), .int a1, .int a2]) below meth c H locs 0 0 (MQ below (va_Qi (fun (r : Int32) (_ : Unit) => r = r0) (fun (_ : Unit) t => wAt (dC, dI) A (wG (cM cy ad) ad 40 σ9) t) A) (#[.ref (ad 0), .int a1, .int a2]) s 0 0 A) (F0 m 37 ls [])) , ∀ (σ : S2) (x1 : Int32) (x2 : Int32) (x3 : Int32) (x4 : Int32) (s0 : Int32) (s1 : Int32) (H : Heap) (locs : List Loc) (ls : Array Slot), fX12_become_118 k37 σ x1 x2 x3 x4 s0 s1 = some (r0, σ9) → va_P (dC, dI) vwCl (wG (cM cy ad) ad 40 σ) H → va_D A (wG (cM cy ad) ad 40 σ) → va_S A s.heap H locs → lv_has ls 6 [(0, .ref (ad 0)), (1, .int x1), (2, .int x2), (3, .int x3), (4, .int x4)] → W p l e (headSpec wsX12_become ({ frames := 3, cells := 0, slots := 0, locals := 66 })).room s m (#[.ref (ad 0), .int a1, .int a2]) below meth c H locs 0 0 (MQ below (va_Qi (fun (r : Int32) (_ : Unit) => r = r0) (fun (_ : Unit) t => wAt (dC, dI) A (wG (cM cy ad) ad 40 σ9) t) A) (#[.ref (ad 0), .int a1, .int a2]) s 0 0 A) (F0 m 118 ls [.int s0, .int s1, .ref (ad 20)]) := by
    intro k37 hk37 σ x1 x2 x3 x4 s0 s1 H locs ls h hP hD hS hl
    unfold fX12_become_118 at h
    refine ux_iast hx hb hK hP hD hS 20 0 (Nat.le_of_ble_eq_true rfl) (fun _ => (cM_20 _ _ _ _)) rfl h dX12_become_118 (fun σ2 H locs h hP hD hS => ?_)
    refine lv_aload_n hx hb dX12_become_119 rfl (lv_at hl 0 rfl) ?_
    refine ux_get (D := (dC, dI)) (ci := 12) (v := .ref (ad 21)) (C := RX12) (T := TX12) (M := 59) (fs := (oM ad (σ2.1 0))) hx hb hts (fun _ h9 => List.mem_cons_of_mem _ (List.mem_append_right _ h9)) hown hK hP 0 (Nat.le_of_ble_eq_true rfl) rfl rfl 24 (by decide) (hts (.fieldLink RX12 71 "SeatsRoundModel" "kept" "[I") (List.mem_of_getElem? (i := 4) rfl)) (fun _ h9 => h9) rfl dX12_become_120 ?_
    refine lv_iload hx hb dX12_become_123 (lv_at hl 4 rfl) ?_
    refine lv_iconst (v := 0) hx hb dX12_become_125 (by decide) ?_
    refine ux_iast hx hb hK hP hD hS 21 0 (Nat.le_of_ble_eq_true rfl) (fun _ => (cM_21 _ _ _ _)) rfl h dX12_become_126 (fun σ3 H locs h hP hD hS => ?_)
    refine lv_aload_n hx hb dX12_become_127 rfl (lv_at hl 0 rfl) ?_
    refine ux_get (D := (dC, dI)) (ci := 12) (v := .ref (ad 22)) (C := RX12) (T := TX12) (M := 59) (fs := (oM ad (σ3.1 0))) hx hb hts (fun _ h9 => List.mem_cons_of_mem _ (List.mem_append_right _ h9)) hown hK hP 0 (Nat.le_of_ble_eq_true rfl) rfl rfl 25 (by decide) (hts (.fieldLink RX12 74 "SeatsRoundModel" "keptFor" "[I") (List.mem_of_getElem? (i := 2) rfl)) (fun _ h9 => h9) rfl dX12_become_128 ?_
    refine lv_iload hx hb dX12_become_131 (lv_at hl 4 rfl) ?_
    refine lv_bipush (v := (-2)) hx hb dX12_become_133 (by decide) ?_
    refine ux_iast hx hb hK hP hD hS 22 0 (Nat.le_of_ble_eq_true rfl) (fun _ => (cM_22 _ _ _ _)) rfl h dX12_become_135 (fun σ4 H locs h hP hD hS => ?_)
    exact w136 _ hk37 σ4 x1 x2 x3 x4 H locs ls h hP hD hS hl
  have w37 : ∀ (n : Nat), ∀ (σ : S2) (x1 : Int32) (x2 : Int32) (x3 : Int32) (x4 : Int32) (H : Heap) (locs : List Loc) (ls : Array Slot), fX12_become_37 n σ x1 x2 x3 x4 = some (r0, σ9) → va_P (dC, dI) vwCl (wG (cM cy ad) ad 40 σ) H → va_D A (wG (cM cy ad) ad 40 σ) → va_S A s.heap H locs → lv_has ls 6 [(0, .ref (ad 0)), (1, .int x1), (2, .int x2), (3, .int x3), (4, .int x4)] → W p l e (headSpec wsX12_become ({ frames := 3, cells := 0, slots := 0, locals := 66 })).room s m (#[.ref (ad 0), .int a1, .int a2]) below meth c H locs 0 0 (MQ below (va_Qi (fun (r : Int32) (_ : Unit) => r = r0) (fun (_ : Unit) t => wAt (dC, dI) A (wG (cM cy ad) ad 40 σ9) t) A) (#[.ref (ad 0), .int a1, .int a2]) s 0 0 A) (F0 m 37 ls []) := by
    intro n
    induction n with
    | zero => intro σ x1 x2 x3 x4 H locs ls h; cases h
    | succ n ih =>
    intro σ x1 x2 x3 x4 H locs ls h hP hD hS hl
    unfold fX12_become_37 at h
    refine lv_iload hx hb dX12_become_37 (lv_at hl 4 rfl) ?_
    refine lv_sipush (v := 480) hx hb dX12_become_39 (by decide) ?_
    refine lv_icmp_ge (tgt := 142) hx hb dX12_become_42 (by decide) (fun hcd => ?_) (fun hcd => ?_)
    · have h := cdP hcd h
      refine lv_iload_n hx hb dX12_become_142 rfl (lv_at hl 3 rfl) ?_
      exact ux_iret hx hb hr h hP hD hS hlocks dX12_become_143
    · have h := cdN hcd h
      refine lv_iload_n hx hb dX12_become_45 rfl (lv_at hl 3 rfl) ?_
      refine lv_iconst (v := 4) hx hb dX12_become_46 (by decide) ?_
      refine lv_icmp_ne (tgt := 142) hx hb dX12_become_47 (by decide) (fun hcd => ?_) (fun hcd => ?_)
      · have h := cdN hcd h
        refine lv_iload_n hx hb dX12_become_142 rfl (lv_at hl 3 rfl) ?_
        exact ux_iret hx hb hr h hP hD hS hlocks dX12_become_143
      · have h := cdP hcd h
        refine lv_iload_n hx hb dX12_become_50 rfl (lv_at hl 2 rfl) ?_
        refine lv_iconst (v := 4) hx hb dX12_become_51 (by decide) ?_
        refine lv_icmp_eq (tgt := 142) hx hb dX12_become_52 (by decide) (fun hcd => ?_) (fun hcd => ?_)
        · have h := cdP hcd h
          refine lv_iload_n hx hb dX12_become_142 rfl (lv_at hl 3 rfl) ?_
          exact ux_iret hx hb hr h hP hD hS hlocks dX12_become_143
        · have h := cdN hcd h
          refine lv_aload_n hx hb dX12_become_55 rfl (lv_at hl 0 rfl) ?_
          refine ux_get (D := (dC, dI)) (ci := 12) (v := .ref (ad 22)) (C := RX12) (T := TX12) (M := 59) (fs := (oM ad (σ.1 0))) hx hb hts (fun _ h9 => List.mem_cons_of_mem _ (List.mem_append_right _ h9)) hown hK hP 0 (Nat.le_of_ble_eq_true rfl) rfl rfl 25 (by decide) (hts (.fieldLink RX12 74 "SeatsRoundModel" "keptFor" "[I") (List.mem_of_getElem? (i := 2) rfl)) (fun _ h9 => h9) rfl dX12_become_56 ?_
          refine lv_iload hx hb dX12_become_59 (lv_at hl 4 rfl) ?_
          refine ux_iald hx hb hK hP 22 0 (Nat.le_of_ble_eq_true rfl) (cM_22 _ _ _ _) rfl h dX12_become_61 (fun v5 h => ?_)
          refine lv_iload_n hx hb dX12_become_62 rfl (lv_at hl 1 rfl) ?_
          refine lv_icmp_ne (tgt := 136) hx hb dX12_become_63 (by decide) (fun hcd => ?_) (fun hcd => ?_)
          · have h := cdN hcd h
            exact w136 _ ih σ x1 x2 x3 x4 H locs ls h hP hD hS hl
          · have h := cdP hcd h
            refine lv_bipush (v := 40) hx hb dX12_become_66 (by decide) ?_
            refine lv_iload_n hx hb dX12_become_68 rfl (lv_at hl 1 rfl) ?_
            refine lv_imul hx hb dX12_become_69 ?_
            refine lv_iload hx hb dX12_become_70 (lv_at hl 4 rfl) ?_
            refine lv_bipush (v := 40) hx hb dX12_become_72 (by decide) ?_
            obtain ⟨hz6, h⟩ := dzS h
            refine lv_irem hx hb dX12_become_74 hz6 ?_
            refine lv_iadd hx hb dX12_become_75 ?_
            refine lv_topi (fun v7 ev7 => ?_)
            have h := nmS h ev7
            refine lv_istore (lv' := [(5, .int v7), (0, .ref (ad 0)), (1, .int x1), (2, .int x2), (3, .int x3), (4, .int x4)]) hx hb dX12_become_76 hl (by decide) rfl (fun ls hl => ?_)
            have hl := lv_sub hl [1, 2, 3, 4, 5, 0] (l' := [(0, .ref (ad 0)), (1, .int x1), (2, .int x2), (3, .int x3), (4, .int x4), (5, .int v7)]) rfl
            refine lv_aload_n hx hb dX12_become_78 rfl (lv_at hl 0 rfl) ?_
            refine ux_get (D := (dC, dI)) (ci := 12) (v := .ref (ad 20)) (C := RX12) (T := TX12) (M := 59) (fs := (oM ad (σ.1 0))) hx hb hts (fun _ h9 => List.mem_cons_of_mem _ (List.mem_append_right _ h9)) hown hK hP 0 (Nat.le_of_ble_eq_true rfl) rfl rfl 23 (by decide) (hts (.fieldLink RX12 68 "SeatsRoundModel" "version" "[I") (List.mem_of_getElem? (i := 3) rfl)) (fun _ h9 => h9) rfl dX12_become_79 ?_
            refine lv_iload hx hb dX12_become_82 (lv_at hl 5 rfl) ?_
            refine lv_aload_n hx hb dX12_become_84 rfl (lv_at hl 0 rfl) ?_
            refine ux_get (D := (dC, dI)) (ci := 12) (v := .ref (ad 21)) (C := RX12) (T := TX12) (M := 59) (fs := (oM ad (σ.1 0))) hx hb hts (fun _ h9 => List.mem_cons_of_mem _ (List.mem_append_right _ h9)) hown hK hP 0 (Nat.le_of_ble_eq_true rfl) rfl rfl 24 (by decide) (hts (.fieldLink RX12 71 "SeatsRoundModel" "kept" "[I") (List.mem_of_getElem? (i := 4) rfl)) (fun _ h9 => h9) rfl dX12_become_85 ?_
            refine lv_iload hx hb dX12_become_88 (lv_at hl 4 rfl) ?_
            refine ux_iald hx hb hK hP 21 0 (Nat.le_of_ble_eq_true rfl) (cM_21 _ _ _ _) rfl h dX12_become_90 (fun v8 h => ?_)
            refine lv_aload_n hx hb dX12_become_91 rfl (lv_at hl 0 rfl) ?_
            refine ux_get (D := (dC, dI)) (ci := 12) (v := .ref (ad 20)) (C := RX12) (T := TX12) (M := 59) (fs := (oM ad (σ.1 0))) hx hb hts (fun _ h9 => List.mem_cons_of_mem _ (List.mem_append_right _ h9)) hown hK hP 0 (Nat.le_of_ble_eq_true rfl) rfl rfl 23 (by decide) (hts (.fieldLink RX12 68 "SeatsRoundModel" "version" "[I") (List.mem_of_getElem? (i := 3) rfl)) (fun _ h9 => h9) rfl dX12_become_92 ?_
            refine lv_iload hx hb dX12_become_95 (lv_at hl 5 rfl) ?_
            refine ux_iald hx hb hK hP 20 0 (Nat.le_of_ble_eq_true rfl) (cM_20 _ _ _ _) rfl h dX12_become_97 (fun v9 h => ?_)
            refine lv_icmp_le (tgt := 111) hx hb dX12_become_98 (by decide) (fun hcd => ?_) (fun hcd => ?_)
            · have h := cdP hcd h
              refine lv_aload_n hx hb dX12_become_111 rfl (lv_at hl 0 rfl) ?_
              refine ux_get (D := (dC, dI)) (ci := 12) (v := .ref (ad 20)) (C := RX12) (T := TX12) (M := 59) (fs := (oM ad (σ.1 0))) hx hb hts (fun _ h9 => List.mem_cons_of_mem _ (List.mem_append_right _ h9)) hown hK hP 0 (Nat.le_of_ble_eq_true rfl) rfl rfl 23 (by decide) (hts (.fieldLink RX12 68 "SeatsRoundModel" "version" "[I") (List.mem_of_getElem? (i := 3) rfl)) (fun _ h9 => h9) rfl dX12_become_112 ?_
              refine lv_iload hx hb dX12_become_115 (lv_at hl 5 rfl) ?_
              refine ux_iald hx hb hK hP 20 0 (Nat.le_of_ble_eq_true rfl) (cM_20 _ _ _ _) rfl h dX12_become_117 (fun v10 h => ?_)
              exact w118 _ ih σ x1 x2 x3 x4 v10 v7 H locs ls h hP hD hS (lv_sub hl [0, 1, 2, 3, 4] rfl)
            · have h := cdN hcd h
              refine lv_aload_n hx hb dX12_become_101 rfl (lv_at hl 0 rfl) ?_
              refine ux_get (D := (dC, dI)) (ci := 12) (v := .ref (ad 21)) (C := RX12) (T := TX12) (M := 59) (fs := (oM ad (σ.1 0))) hx hb hts (fun _ h9 => List.mem_cons_of_mem _ (List.mem_append_right _ h9)) hown hK hP 0 (Nat.le_of_ble_eq_true rfl) rfl rfl 24 (by decide) (hts (.fieldLink RX12 71 "SeatsRoundModel" "kept" "[I") (List.mem_of_getElem? (i := 4) rfl)) (fun _ h9 => h9) rfl dX12_become_102 ?_
              refine lv_iload hx hb dX12_become_105 (lv_at hl 4 rfl) ?_
              refine ux_iald hx hb hK hP 21 0 (Nat.le_of_ble_eq_true rfl) (cM_21 _ _ _ _) rfl h dX12_become_107 (fun v11 h => ?_)
              refine lv_goto (tgt := 118) hx hb dX12_become_108 (by decide) ?_
              exact w118 _ ih σ x1 x2 x3 x4 v11 v7 H locs ls h hP hD hS (lv_sub hl [0, 1, 2, 3, 4] rfl)
  have w0 : ∀ (σ : S2) (x1 : Int32) (x2 : Int32) (H : Heap) (locs : List Loc) (ls : Array Slot), fX12_become_0 σ x1 x2 = some (r0, σ9) → va_P (dC, dI) vwCl (wG (cM cy ad) ad 40 σ) H → va_D A (wG (cM cy ad) ad 40 σ) → va_S A s.heap H locs → lv_has ls 6 [(0, .ref (ad 0)), (1, .int x1), (2, .int x2)] → W p l e (headSpec wsX12_become ({ frames := 3, cells := 0, slots := 0, locals := 66 })).room s m (#[.ref (ad 0), .int a1, .int a2]) below meth c H locs 0 0 (MQ below (va_Qi (fun (r : Int32) (_ : Unit) => r = r0) (fun (_ : Unit) t => wAt (dC, dI) A (wG (cM cy ad) ad 40 σ9) t) A) (#[.ref (ad 0), .int a1, .int a2]) s 0 0 A) (F0 m 0 ls []) := by
    intro σ x1 x2 H locs ls h hP hD hS hl
    unfold fX12_become_0 at h
    refine lv_aload_n hx hb dX12_become_0 rfl (lv_at hl 0 rfl) ?_
    refine lv_iload_n hx hb dX12_become_1 rfl (lv_at hl 1 rfl) ?_
    obtain ⟨r12, hf13, h⟩ := biS h
    refine ux_calli (va_runV (As := [.int x1]) (rest := []) ⟨hx, hb, hml, hown, hts⟩ (tX12_isKeeper l dC dI cy ad σ x1 H.size r12 hf13) (cwV 1 hts gX12_become_X12_isKeeper rfl rfl rfl (by decide +kernel) ⟨Nat.le_of_ble_eq_true rfl, Nat.le_of_ble_eq_true rfl⟩) (wp_V hK hN hP hD (va_recv hK hP (ci := 12) (q0 := 0) rfl (wG_of (Nat.le_of_ble_eq_true rfl) rfl))) rfl rfl hl.1 rfl (lv_room (Nat.le_of_ble_eq_true rfl)) dX12_become_2 ⟨Nat.le_of_ble_eq_true rfl, Nat.le_of_ble_eq_true rfl⟩) hD hS hA (fun H locs hP hD hS => ?_)
    refine lv_if_eq (tgt := 18) hx hb dX12_become_5 (by decide) (fun hcd => ?_) (fun hcd => ?_)
    · have h := cdP hcd h
      refine lv_iconst (v := (-1)) hx hb dX12_become_18 (by decide) ?_
      exact ux_iret hx hb hr h hP hD hS hlocks dX12_become_19
    · have h := cdN hcd h
      refine lv_iload_n hx hb dX12_become_8 rfl (lv_at hl 2 rfl) ?_
      refine lv_iconst (v := 0) hx hb dX12_become_9 (by decide) ?_
      refine lv_bipush (v := 6) hx hb dX12_become_10 (by decide) ?_
      obtain ⟨r14, hf15, h⟩ := biS h
      refine ux_calli (va_runS (As := [.int x2, .int 0, .int 6]) (rest := []) ⟨hx, hb, hml, hown, hts⟩ (tX12_in l dC dI cy ad σ x2 0 6 H.size r14 hf15) (va_cwS 3 hts gX12_become_X12_in rfl rfl rfl (by decide +kernel) ⟨Nat.le_of_ble_eq_true rfl, Nat.le_of_ble_eq_true rfl⟩) (wp_S hK hN hP hD) rfl rfl hl.1 rfl (lv_room (Nat.le_of_ble_eq_true rfl)) dX12_become_12 ⟨Nat.le_of_ble_eq_true rfl, Nat.le_of_ble_eq_true rfl⟩) hD hS hA (fun H locs hP hD hS => ?_)
      refine lv_if_ne (tgt := 20) hx hb dX12_become_15 (by decide) (fun hcd => ?_) (fun hcd => ?_)
      · have h := cdN hcd h
        refine lv_aload_n hx hb dX12_become_20 rfl (lv_at hl 0 rfl) ?_
        refine ux_get (D := (dC, dI)) (ci := 12) (v := .ref (ad 5)) (C := RX12) (T := TX12) (M := 59) (fs := (oM ad (σ.1 0))) hx hb hts (fun _ h9 => List.mem_cons_of_mem _ (List.mem_append_right _ h9)) hown hK hP 0 (Nat.le_of_ble_eq_true rfl) rfl rfl 6 (by decide) (hts (.fieldLink RX12 22 "SeatsRoundModel" "kind" "[I") (List.mem_of_getElem? (i := 1) rfl)) (fun _ h9 => h9) rfl dX12_become_21 ?_
        refine lv_iload_n hx hb dX12_become_24 rfl (lv_at hl 1 rfl) ?_
        refine ux_iald hx hb hK hP 5 0 (Nat.le_of_ble_eq_true rfl) (cM_5 _ _ _ _) rfl h dX12_become_25 (fun v16 h => ?_)
        refine lv_istore_n (lv' := [(3, .int v16), (0, .ref (ad 0)), (1, .int x1), (2, .int x2)]) hx hb dX12_become_26 rfl hl (by decide) rfl (fun ls hl => ?_)
        have hl := lv_sub hl [1, 2, 3, 0] (l' := [(0, .ref (ad 0)), (1, .int x1), (2, .int x2), (3, .int v16)]) rfl
        refine lv_aload_n hx hb dX12_become_27 rfl (lv_at hl 0 rfl) ?_
        refine ux_get (D := (dC, dI)) (ci := 12) (v := .ref (ad 5)) (C := RX12) (T := TX12) (M := 59) (fs := (oM ad (σ.1 0))) hx hb hts (fun _ h9 => List.mem_cons_of_mem _ (List.mem_append_right _ h9)) hown hK hP 0 (Nat.le_of_ble_eq_true rfl) rfl rfl 6 (by decide) (hts (.fieldLink RX12 22 "SeatsRoundModel" "kind" "[I") (List.mem_of_getElem? (i := 1) rfl)) (fun _ h9 => h9) rfl dX12_become_28 ?_
        refine lv_iload_n hx hb dX12_become_31 rfl (lv_at hl 1 rfl) ?_
        refine lv_iload_n hx hb dX12_become_32 rfl (lv_at hl 2 rfl) ?_
        refine ux_iast hx hb hK hP hD hS 5 0 (Nat.le_of_ble_eq_true rfl) (fun _ => (cM_5 _ _ _ _)) rfl h dX12_become_33 (fun σ17 H locs h hP hD hS => ?_)
        refine lv_iconst (v := 0) hx hb dX12_become_34 (by decide) ?_
        refine lv_istore (lv' := [(4, .int 0), (0, .ref (ad 0)), (1, .int x1), (2, .int x2), (3, .int v16)]) hx hb dX12_become_35 hl (by decide) rfl (fun ls hl => ?_)
        have hl := lv_sub hl [1, 2, 3, 4, 0] (l' := [(0, .ref (ad 0)), (1, .int x1), (2, .int x2), (3, .int v16), (4, .int 0)]) rfl
        exact w37 FU σ17 x1 x2 v16 0 H locs ls h hP hD hS hl
      · have h := cdP hcd h
        refine lv_iconst (v := (-1)) hx hb dX12_become_18 (by decide) ?_
        exact ux_iret hx hb hr h hP hD hS hlocks dX12_become_19
  intro H locs ls h hP hD hS hl
  exact w0 σ a1 a2 H locs ls h hP hD hS (lv_sub hl [0, 1, 2] rfl)

set_option maxHeartbeats 4000000 in
set_option maxRecDepth 100000 in
theorem tX12_strength (l : Launch) (dC : Nat → ClassId) (dI : Nat → Nat → Nat) (cy : Nat → ClassId) (ad : Nat → Nat) (σ : S2) (a1 : Int32) (a2 : Int32) (sz : Nat) (r0 : Int32) (σ9 : S2) (h : fX12_strength σ a1 a2 = some (r0, σ9)) : Met l yX12_strength wsX12_strength ({ frames := 3, cells := 0, slots := 0, locals := 66 }) (va_Pc [.ref (ad 0), .int a1, .int a2] (wPre (dC, dI) cy (wG (cM cy ad) ad 40 σ) sz)) (va_Qi (fun (r : Int32) (_ : Unit) => r = r0) (fun (_ : Unit) t => wAt (dC, dI) (va_A (wG (cM cy ad) ad 40 σ) sz) (wG (cM cy ad) ad 40 σ9) t) (va_A (wG (cM cy ad) ad 40 σ) sz)) 0 0 (va_A (wG (cM cy ad) ad 40 σ) sz) := by
  refine Met.ofW (cc := cX12_strength) (maxL := 4) (ret := (some .int)) (by decide) rfl ?_
  intro p e s m args below meth c s₁ B hml hv
  obtain ⟨rfl, hsz, hP, hK, hD0, hN⟩ := hv
  have hx := B.exec
  have hb := B.bytes
  have hr := B.returns
  have hts := atoms_spec (ws := wsX12_strength) B.pre
  have hown : s.vm.findClass RX12 = some m.cls := findClass_of_methodNamed B.named
  have hlocks := B.notSynchronized
  subst hsz
  have hD := hD0.self (sz := s.heap.size)
  generalize hAe : va_A (wG (cM cy ad) ad 40 σ) s.heap.size = A at hD ⊢
  have hA : ∀ q : Nat, s.heap.size ≤ q → A q := fun q h => by rw [← hAe]; exact Or.inr h
  have hS : va_S A s.heap s.heap [] := va_S.rf
  have hl := lv_entry ([.ref (ad 0), .int a1, .int a2]) (n := 4) (Nat.le_of_ble_eq_true rfl)
  rw [lg_entry_eq]
  generalize (lg_sl ([.ref (ad 0), .int a1, .int a2]) ++ List.replicate (4 - (lg_sl ([.ref (ad 0), .int a1, .int a2])).length) Slot.unset).toArray = ls at hl ⊢
  have hl : lv_has ls 4 [(0, .ref (ad 0)), (1, .int a1), (2, .int a2)] := hl
  unfold fX12_strength at h
  clear hAe hD0
  suffices HH : ∀ (H : Heap) (locs : List Loc) (ls : Array Slot), fX12_strength_0 σ a1 a2 = some (r0, σ9) → va_P (dC, dI) vwCl (wG (cM cy ad) ad 40 σ) H → va_D A (wG (cM cy ad) ad 40 σ) → va_S A s.heap H locs → lv_has ls 4 [(0, .ref (ad 0)), (1, .int a1), (2, .int a2)] → W p l e (headSpec wsX12_strength ({ frames := 3, cells := 0, slots := 0, locals := 66 })).room s m (#[.ref (ad 0), .int a1, .int a2]) below meth c H locs 0 0 (MQ below (va_Qi (fun (r : Int32) (_ : Unit) => r = r0) (fun (_ : Unit) t => wAt (dC, dI) A (wG (cM cy ad) ad 40 σ9) t) A) (#[.ref (ad 0), .int a1, .int a2]) s 0 0 A) (F0 m 0 ls []) from HH s.heap [] ls h hP hD hS hl
  have w0 : ∀ (σ : S2) (x1 : Int32) (x2 : Int32) (H : Heap) (locs : List Loc) (ls : Array Slot), fX12_strength_0 σ x1 x2 = some (r0, σ9) → va_P (dC, dI) vwCl (wG (cM cy ad) ad 40 σ) H → va_D A (wG (cM cy ad) ad 40 σ) → va_S A s.heap H locs → lv_has ls 4 [(0, .ref (ad 0)), (1, .int x1), (2, .int x2)] → W p l e (headSpec wsX12_strength ({ frames := 3, cells := 0, slots := 0, locals := 66 })).room s m (#[.ref (ad 0), .int a1, .int a2]) below meth c H locs 0 0 (MQ below (va_Qi (fun (r : Int32) (_ : Unit) => r = r0) (fun (_ : Unit) t => wAt (dC, dI) A (wG (cM cy ad) ad 40 σ9) t) A) (#[.ref (ad 0), .int a1, .int a2]) s 0 0 A) (F0 m 0 ls []) := by
    intro σ x1 x2 H locs ls h hP hD hS hl
    unfold fX12_strength_0 at h
    refine lv_aload_n hx hb dX12_strength_0 rfl (lv_at hl 0 rfl) ?_
    refine lv_iload_n hx hb dX12_strength_1 rfl (lv_at hl 1 rfl) ?_
    obtain ⟨r1, hf2, h⟩ := biS h
    refine ux_calli (va_runV (As := [.int x1]) (rest := []) ⟨hx, hb, hml, hown, hts⟩ (tX12_isKeeper l dC dI cy ad σ x1 H.size r1 hf2) (cwV 1 hts gX12_strength_X12_isKeeper rfl rfl rfl (by decide +kernel) ⟨Nat.le_of_ble_eq_true rfl, Nat.le_of_ble_eq_true rfl⟩) (wp_V hK hN hP hD (va_recv hK hP (ci := 12) (q0 := 0) rfl (wG_of (Nat.le_of_ble_eq_true rfl) rfl))) rfl rfl hl.1 rfl (lv_room (Nat.le_of_ble_eq_true rfl)) dX12_strength_2 ⟨Nat.le_of_ble_eq_true rfl, Nat.le_of_ble_eq_true rfl⟩) hD hS hA (fun H locs hP hD hS => ?_)
    refine lv_if_eq (tgt := 18) hx hb dX12_strength_5 (by decide) (fun hcd => ?_) (fun hcd => ?_)
    · have h := cdP hcd h
      refine lv_iconst (v := (-1)) hx hb dX12_strength_18 (by decide) ?_
      exact ux_iret hx hb hr h hP hD hS hlocks dX12_strength_19
    · have h := cdN hcd h
      refine lv_iload_n hx hb dX12_strength_8 rfl (lv_at hl 2 rfl) ?_
      refine lv_iconst (v := 1) hx hb dX12_strength_9 (by decide) ?_
      refine lv_bipush (v := 8) hx hb dX12_strength_10 (by decide) ?_
      obtain ⟨r3, hf4, h⟩ := biS h
      refine ux_calli (va_runS (As := [.int x2, .int 1, .int 8]) (rest := []) ⟨hx, hb, hml, hown, hts⟩ (tX12_in l dC dI cy ad σ x2 1 8 H.size r3 hf4) (va_cwS 3 hts gX12_strength_X12_in rfl rfl rfl (by decide +kernel) ⟨Nat.le_of_ble_eq_true rfl, Nat.le_of_ble_eq_true rfl⟩) (wp_S hK hN hP hD) rfl rfl hl.1 rfl (lv_room (Nat.le_of_ble_eq_true rfl)) dX12_strength_12 ⟨Nat.le_of_ble_eq_true rfl, Nat.le_of_ble_eq_true rfl⟩) hD hS hA (fun H locs hP hD hS => ?_)
      refine lv_if_ne (tgt := 20) hx hb dX12_strength_15 (by decide) (fun hcd => ?_) (fun hcd => ?_)
      · have h := cdN hcd h
        refine lv_aload_n hx hb dX12_strength_20 rfl (lv_at hl 0 rfl) ?_
        refine ux_get (D := (dC, dI)) (ci := 12) (v := .ref (ad 4)) (C := RX12) (T := TX12) (M := 59) (fs := (oM ad (σ.1 0))) hx hb hts (fun _ h9 => List.mem_cons_of_mem _ (List.mem_append_right _ h9)) hown hK hP 0 (Nat.le_of_ble_eq_true rfl) rfl rfl 5 (by decide) (hts (.fieldLink RX12 19 "SeatsRoundModel" "strength" "[I") (List.mem_of_getElem? (i := 1) rfl)) (fun _ h9 => h9) rfl dX12_strength_21 ?_
        refine lv_iload_n hx hb dX12_strength_24 rfl (lv_at hl 1 rfl) ?_
        refine ux_iald hx hb hK hP 4 0 (Nat.le_of_ble_eq_true rfl) (cM_4 _ _ _ _) rfl h dX12_strength_25 (fun v5 h => ?_)
        refine lv_istore_n (lv' := [(3, .int v5), (0, .ref (ad 0)), (1, .int x1), (2, .int x2)]) hx hb dX12_strength_26 rfl hl (by decide) rfl (fun ls hl => ?_)
        have hl := lv_sub hl [1, 2, 3, 0] (l' := [(0, .ref (ad 0)), (1, .int x1), (2, .int x2), (3, .int v5)]) rfl
        refine lv_aload_n hx hb dX12_strength_27 rfl (lv_at hl 0 rfl) ?_
        refine ux_get (D := (dC, dI)) (ci := 12) (v := .ref (ad 4)) (C := RX12) (T := TX12) (M := 59) (fs := (oM ad (σ.1 0))) hx hb hts (fun _ h9 => List.mem_cons_of_mem _ (List.mem_append_right _ h9)) hown hK hP 0 (Nat.le_of_ble_eq_true rfl) rfl rfl 5 (by decide) (hts (.fieldLink RX12 19 "SeatsRoundModel" "strength" "[I") (List.mem_of_getElem? (i := 1) rfl)) (fun _ h9 => h9) rfl dX12_strength_28 ?_
        refine lv_iload_n hx hb dX12_strength_31 rfl (lv_at hl 1 rfl) ?_
        refine lv_iload_n hx hb dX12_strength_32 rfl (lv_at hl 2 rfl) ?_
        refine ux_iast hx hb hK hP hD hS 4 0 (Nat.le_of_ble_eq_true rfl) (fun _ => (cM_4 _ _ _ _)) rfl h dX12_strength_33 (fun σ6 H locs h hP hD hS => ?_)
        refine lv_iload_n hx hb dX12_strength_34 rfl (lv_at hl 3 rfl) ?_
        exact ux_iret hx hb hr h hP hD hS hlocks dX12_strength_35
      · have h := cdP hcd h
        refine lv_iconst (v := (-1)) hx hb dX12_strength_18 (by decide) ?_
        exact ux_iret hx hb hr h hP hD hS hlocks dX12_strength_19
  intro H locs ls h hP hD hS hl
  exact w0 σ a1 a2 H locs ls h hP hD hS (lv_sub hl [0, 1, 2] rfl)

set_option maxHeartbeats 4000000 in
set_option maxRecDepth 100000 in
theorem tX12_many (l : Launch) (dC : Nat → ClassId) (dI : Nat → Nat → Nat) (cy : Nat → ClassId) (ad : Nat → Nat) (σ : S2) (a1 : Int32) (a2 : Int32) (sz : Nat) (r0 : Int32) (h : fX12_many σ a1 a2 = some r0) : Met l yX12_many wsX12_many ({ frames := 1, cells := 0, slots := 0, locals := 23 }) (va_Pc [.ref (ad 0), .int a1, .int a2] (wPre (dC, dI) cy (wG (cM cy ad) ad 40 σ) sz)) (va_Qi (fun (r : Int32) (_ : Unit) => r = r0) (fun (_ : Unit) t => wAt (dC, dI) (va_A (wG (cM cy ad) ad 40 σ) sz) (wG (cM cy ad) ad 40 σ) t) (va_A (wG (cM cy ad) ad 40 σ) sz)) 0 0 (va_A (wG (cM cy ad) ad 40 σ) sz) := by
  refine Met.ofW (cc := cX12_many) (maxL := 5) (ret := (some .int)) (by decide) rfl ?_
  intro p e s m args below meth c s₁ B hml hv
  obtain ⟨rfl, hsz, hP, hK, hD0, hN⟩ := hv
  have hx := B.exec
  have hb := B.bytes
  have hr := B.returns
  have hts := atoms_spec (ws := wsX12_many) B.pre
  have hown : s.vm.findClass RX12 = some m.cls := findClass_of_methodNamed B.named
  have hlocks := B.notSynchronized
  subst hsz
  have hD := hD0.self (sz := s.heap.size)
  generalize hAe : va_A (wG (cM cy ad) ad 40 σ) s.heap.size = A at hD ⊢
  have hA : ∀ q : Nat, s.heap.size ≤ q → A q := fun q h => by rw [← hAe]; exact Or.inr h
  have hS : va_S A s.heap s.heap [] := va_S.rf
  have hl := lv_entry ([.ref (ad 0), .int a1, .int a2]) (n := 5) (Nat.le_of_ble_eq_true rfl)
  rw [lg_entry_eq]
  generalize (lg_sl ([.ref (ad 0), .int a1, .int a2]) ++ List.replicate (5 - (lg_sl ([.ref (ad 0), .int a1, .int a2])).length) Slot.unset).toArray = ls at hl ⊢
  have hl : lv_has ls 5 [(0, .ref (ad 0)), (1, .int a1), (2, .int a2)] := hl
  unfold fX12_many at h
  clear hAe hD0
  suffices HH : ∀ (H : Heap) (locs : List Loc) (ls : Array Slot), fX12_many_0 σ a1 a2 = some r0 → va_P (dC, dI) vwCl (wG (cM cy ad) ad 40 σ) H → va_D A (wG (cM cy ad) ad 40 σ) → va_S A s.heap H locs → lv_has ls 5 [(0, .ref (ad 0)), (1, .int a1), (2, .int a2)] → W p l e (headSpec wsX12_many ({ frames := 1, cells := 0, slots := 0, locals := 23 })).room s m (#[.ref (ad 0), .int a1, .int a2]) below meth c H locs 0 0 (MQ below (va_Qi (fun (r : Int32) (_ : Unit) => r = r0) (fun (_ : Unit) t => wAt (dC, dI) A (wG (cM cy ad) ad 40 σ) t) A) (#[.ref (ad 0), .int a1, .int a2]) s 0 0 A) (F0 m 0 ls []) from HH s.heap [] ls h hP hD hS hl
  have w60 : ∀ (k5 : S2 → Int32 → Int32 → Int32 → Int32 → Option Int32) (hk5 : ∀ (σ : S2) (x1 : Int32) (x2 : Int32) (x3 : Int32) (x4 : Int32) (H : Heap) (locs : List Loc) (ls : Array Slot), k5 σ x1 x2 x3 x4 = some r0 → va_P (dC, dI) vwCl (wG (cM cy ad) ad 40 σ) H → va_D A (wG (cM cy ad) ad 40 σ) → va_S A s.heap H locs → lv_has ls 5 [(0, .ref (ad 0)), (1, .int x1), (2, .int x2), (3, .int x3), (4, .int x4)] → W p l e (headSpec wsX12_many ({ frames := 1, cells := 0, slots := 0, locals := 23 })).room s m (#[.ref (ad 0), .int a1, .int a2]) below meth c H locs 0 0 (MQ below (va_Qi (fun (r : Int32) (_ : Unit) => r = r0) (fun (_ : Unit) t => wAt (dC, dI) A (wG (cM cy ad) ad 40 σ) t) A) (#[.ref (ad 0), .int a1, .int a2]) s 0 0 A) (F0 m 5 ls [])) , ∀ (σ : S2) (x1 : Int32) (x2 : Int32) (x4 : Int32) (s0 : Int32) (s1 : Int32) (H : Heap) (locs : List Loc) (ls : Array Slot), fX12_many_60 k5 σ x1 x2 x4 s0 s1 = some r0 → va_P (dC, dI) vwCl (wG (cM cy ad) ad 40 σ) H → va_D A (wG (cM cy ad) ad 40 σ) → va_S A s.heap H locs → lv_has ls 5 [(0, .ref (ad 0)), (1, .int x1), (2, .int x2), (4, .int x4)] → W p l e (headSpec wsX12_many ({ frames := 1, cells := 0, slots := 0, locals := 23 })).room s m (#[.ref (ad 0), .int a1, .int a2]) below meth c H locs 0 0 (MQ below (va_Qi (fun (r : Int32) (_ : Unit) => r = r0) (fun (_ : Unit) t => wAt (dC, dI) A (wG (cM cy ad) ad 40 σ) t) A) (#[.ref (ad 0), .int a1, .int a2]) s 0 0 A) (F0 m 60 ls [.int s0, .int s1]) := by
    intro k5 hk5 σ x1 x2 x4 s0 s1 H locs ls h hP hD hS hl
    unfold fX12_many_60 at h
    refine lv_iadd hx hb dX12_many_60 ?_
    refine lv_topi (fun v1 ev1 => ?_)
    have h := nmS h ev1
    refine lv_istore_n (lv' := [(3, .int v1), (0, .ref (ad 0)), (1, .int x1), (2, .int x2), (4, .int x4)]) hx hb dX12_many_61 rfl hl (by decide) rfl (fun ls hl => ?_)
    have hl := lv_sub hl [1, 2, 3, 0, 4] (l' := [(0, .ref (ad 0)), (1, .int x1), (2, .int x2), (3, .int v1), (4, .int x4)]) rfl
    obtain ⟨v2, ev2⟩ : ∃ y : Int32, y = x4 + 1 := ⟨_, rfl⟩
    have h := nmS h ev2
    refine lv_iinc (v := v2) (lv' := [(4, .int v2), (0, .ref (ad 0)), (1, .int x1), (2, .int x2), (3, .int v1)]) hx hb dX12_many_62 hl (k := 4) rfl (by rw [ev2]; rfl) (by decide) rfl (fun ls hl => ?_)
    have hl := lv_sub hl [1, 2, 3, 4, 0] (l' := [(0, .ref (ad 0)), (1, .int x1), (2, .int x2), (3, .int v1), (4, .int v2)]) rfl
    refine lv_goto (tgt := 5) hx hb dX12_many_65 (by decide) ?_
    exact hk5 σ x1 x2 v1 v2 H locs ls h hP hD hS hl
  have w5 : ∀ (n : Nat), ∀ (σ : S2) (x1 : Int32) (x2 : Int32) (x3 : Int32) (x4 : Int32) (H : Heap) (locs : List Loc) (ls : Array Slot), fX12_many_5 n σ x1 x2 x3 x4 = some r0 → va_P (dC, dI) vwCl (wG (cM cy ad) ad 40 σ) H → va_D A (wG (cM cy ad) ad 40 σ) → va_S A s.heap H locs → lv_has ls 5 [(0, .ref (ad 0)), (1, .int x1), (2, .int x2), (3, .int x3), (4, .int x4)] → W p l e (headSpec wsX12_many ({ frames := 1, cells := 0, slots := 0, locals := 23 })).room s m (#[.ref (ad 0), .int a1, .int a2]) below meth c H locs 0 0 (MQ below (va_Qi (fun (r : Int32) (_ : Unit) => r = r0) (fun (_ : Unit) t => wAt (dC, dI) A (wG (cM cy ad) ad 40 σ) t) A) (#[.ref (ad 0), .int a1, .int a2]) s 0 0 A) (F0 m 5 ls []) := by
    intro n
    induction n with
    | zero => intro σ x1 x2 x3 x4 H locs ls h; cases h
    | succ n ih =>
    intro σ x1 x2 x3 x4 H locs ls h hP hD hS hl
    unfold fX12_many_5 at h
    refine lv_iload hx hb dX12_many_5 (lv_at hl 4 rfl) ?_
    refine lv_bipush (v := 40) hx hb dX12_many_7 (by decide) ?_
    refine lv_icmp_ge (tgt := 68) hx hb dX12_many_9 (by decide) (fun hcd => ?_) (fun hcd => ?_)
    · have h := cdP hcd h
      refine lv_iload_n hx hb dX12_many_68 rfl (lv_at hl 3 rfl) ?_
      exact ux_iretP hx hb hr h hP hD hS hlocks dX12_many_69
    · have h := cdN hcd h
      refine lv_iload_n hx hb dX12_many_12 rfl (lv_at hl 3 rfl) ?_
      refine lv_iload_n hx hb dX12_many_13 rfl (lv_at hl 2 rfl) ?_
      refine lv_if_eq (tgt := 40) hx hb dX12_many_14 (by decide) (fun hcd => ?_) (fun hcd => ?_)
      · have h := cdP hcd h
        refine lv_aload_n hx hb dX12_many_40 rfl (lv_at hl 0 rfl) ?_
        refine ux_get (D := (dC, dI)) (ci := 12) (v := .ref (ad 21)) (C := RX12) (T := TX12) (M := 59) (fs := (oM ad (σ.1 0))) hx hb hts (fun _ h9 => List.mem_cons_of_mem _ (List.mem_append_right _ h9)) hown hK hP 0 (Nat.le_of_ble_eq_true rfl) rfl rfl 24 (by decide) (hts (.fieldLink RX12 71 "SeatsRoundModel" "kept" "[I") (List.mem_of_getElem? (i := 2) rfl)) (fun _ h9 => h9) rfl dX12_many_41 ?_
        refine lv_bipush (v := 40) hx hb dX12_many_44 (by decide) ?_
        refine lv_iload_n hx hb dX12_many_46 rfl (lv_at hl 1 rfl) ?_
        refine lv_imul hx hb dX12_many_47 ?_
        refine lv_iload hx hb dX12_many_48 (lv_at hl 4 rfl) ?_
        refine lv_iadd hx hb dX12_many_50 ?_
        refine ux_iald hx hb hK hP 21 0 (Nat.le_of_ble_eq_true rfl) (cM_21 _ _ _ _) rfl h dX12_many_51 (fun v3 h => ?_)
        change W _ _ _ _ _ _ _ _ _ _ _ _ _ _ _ (F0 m 52 ls [.int v3, .int x3])
        refine lv_if_le (tgt := 59) hx hb dX12_many_52 (by decide) (fun hcd => ?_) (fun hcd => ?_)
        · have h := cdP hcd h
          refine lv_iconst (v := 0) hx hb dX12_many_59 (by decide) ?_
          exact w60 _ ih σ x1 x2 x4 0 x3 H locs ls h hP hD hS (lv_sub hl [0, 1, 2, 4] rfl)
        · have h := cdN hcd h
          refine lv_iconst (v := 1) hx hb dX12_many_55 (by decide) ?_
          refine lv_goto (tgt := 60) hx hb dX12_many_56 (by decide) ?_
          exact w60 _ ih σ x1 x2 x4 1 x3 H locs ls h hP hD hS (lv_sub hl [0, 1, 2, 4] rfl)
      · have h := cdN hcd h
        refine lv_aload_n hx hb dX12_many_17 rfl (lv_at hl 0 rfl) ?_
        refine ux_get (D := (dC, dI)) (ci := 12) (v := .ref (ad 20)) (C := RX12) (T := TX12) (M := 59) (fs := (oM ad (σ.1 0))) hx hb hts (fun _ h9 => List.mem_cons_of_mem _ (List.mem_append_right _ h9)) hown hK hP 0 (Nat.le_of_ble_eq_true rfl) rfl rfl 23 (by decide) (hts (.fieldLink RX12 68 "SeatsRoundModel" "version" "[I") (List.mem_of_getElem? (i := 1) rfl)) (fun _ h9 => h9) rfl dX12_many_18 ?_
        refine lv_bipush (v := 40) hx hb dX12_many_21 (by decide) ?_
        refine lv_iload_n hx hb dX12_many_23 rfl (lv_at hl 1 rfl) ?_
        refine lv_imul hx hb dX12_many_24 ?_
        refine lv_iload hx hb dX12_many_25 (lv_at hl 4 rfl) ?_
        refine lv_iadd hx hb dX12_many_27 ?_
        refine ux_iald hx hb hK hP 20 0 (Nat.le_of_ble_eq_true rfl) (cM_20 _ _ _ _) rfl h dX12_many_28 (fun v4 h => ?_)
        change W _ _ _ _ _ _ _ _ _ _ _ _ _ _ _ (F0 m 29 ls [.int v4, .int x3])
        refine lv_if_le (tgt := 36) hx hb dX12_many_29 (by decide) (fun hcd => ?_) (fun hcd => ?_)
        · have h := cdP hcd h
          refine lv_iconst (v := 0) hx hb dX12_many_36 (by decide) ?_
          refine lv_goto (tgt := 60) hx hb dX12_many_37 (by decide) ?_
          exact w60 _ ih σ x1 x2 x4 0 x3 H locs ls h hP hD hS (lv_sub hl [0, 1, 2, 4] rfl)
        · have h := cdN hcd h
          refine lv_iconst (v := 1) hx hb dX12_many_32 (by decide) ?_
          refine lv_goto (tgt := 60) hx hb dX12_many_33 (by decide) ?_
          exact w60 _ ih σ x1 x2 x4 1 x3 H locs ls h hP hD hS (lv_sub hl [0, 1, 2, 4] rfl)
  have w0 : ∀ (σ : S2) (x1 : Int32) (x2 : Int32) (H : Heap) (locs : List Loc) (ls : Array Slot), fX12_many_0 σ x1 x2 = some r0 → va_P (dC, dI) vwCl (wG (cM cy ad) ad 40 σ) H → va_D A (wG (cM cy ad) ad 40 σ) → va_S A s.heap H locs → lv_has ls 5 [(0, .ref (ad 0)), (1, .int x1), (2, .int x2)] → W p l e (headSpec wsX12_many ({ frames := 1, cells := 0, slots := 0, locals := 23 })).room s m (#[.ref (ad 0), .int a1, .int a2]) below meth c H locs 0 0 (MQ below (va_Qi (fun (r : Int32) (_ : Unit) => r = r0) (fun (_ : Unit) t => wAt (dC, dI) A (wG (cM cy ad) ad 40 σ) t) A) (#[.ref (ad 0), .int a1, .int a2]) s 0 0 A) (F0 m 0 ls []) := by
    intro σ x1 x2 H locs ls h hP hD hS hl
    unfold fX12_many_0 at h
    refine lv_iconst (v := 0) hx hb dX12_many_0 (by decide) ?_
    refine lv_istore_n (lv' := [(3, .int 0), (0, .ref (ad 0)), (1, .int x1), (2, .int x2)]) hx hb dX12_many_1 rfl hl (by decide) rfl (fun ls hl => ?_)
    have hl := lv_sub hl [1, 2, 3, 0] (l' := [(0, .ref (ad 0)), (1, .int x1), (2, .int x2), (3, .int 0)]) rfl
    refine lv_iconst (v := 0) hx hb dX12_many_2 (by decide) ?_
    refine lv_istore (lv' := [(4, .int 0), (0, .ref (ad 0)), (1, .int x1), (2, .int x2), (3, .int 0)]) hx hb dX12_many_3 hl (by decide) rfl (fun ls hl => ?_)
    have hl := lv_sub hl [1, 2, 3, 4, 0] (l' := [(0, .ref (ad 0)), (1, .int x1), (2, .int x2), (3, .int 0), (4, .int 0)]) rfl
    exact w5 FU σ x1 x2 0 0 H locs ls h hP hD hS hl
  intro H locs ls h hP hD hS hl
  exact w0 σ a1 a2 H locs ls h hP hD hS (lv_sub hl [0, 1, 2] rfl)

set_option maxHeartbeats 4000000 in
set_option maxRecDepth 100000 in
theorem tX12_ofKeeper (l : Launch) (dC : Nat → ClassId) (dI : Nat → Nat → Nat) (cy : Nat → ClassId) (ad : Nat → Nat) (σ : S2) (a1 : Int32) (a2 : Int32) (sz : Nat) (r0 : Int32) (h : fX12_ofKeeper σ a1 a2 = some r0) : Met l yX12_ofKeeper wsX12_ofKeeper ({ frames := 3, cells := 0, slots := 0, locals := 66 }) (va_Pc [.ref (ad 0), .int a1, .int a2] (wPre (dC, dI) cy (wG (cM cy ad) ad 40 σ) sz)) (va_Qi (fun (r : Int32) (_ : Unit) => r = r0) (fun (_ : Unit) t => wAt (dC, dI) (va_A (wG (cM cy ad) ad 40 σ) sz) (wG (cM cy ad) ad 40 σ) t) (va_A (wG (cM cy ad) ad 40 σ) sz)) 0 0 (va_A (wG (cM cy ad) ad 40 σ) sz) := by
  refine Met.ofW (cc := cX12_ofKeeper) (maxL := 3) (ret := (some .int)) (by decide) rfl ?_
  intro p e s m args below meth c s₁ B hml hv
  obtain ⟨rfl, hsz, hP, hK, hD0, hN⟩ := hv
  have hx := B.exec
  have hb := B.bytes
  have hr := B.returns
  have hts := atoms_spec (ws := wsX12_ofKeeper) B.pre
  have hown : s.vm.findClass RX12 = some m.cls := findClass_of_methodNamed B.named
  have hlocks := B.notSynchronized
  subst hsz
  have hD := hD0.self (sz := s.heap.size)
  generalize hAe : va_A (wG (cM cy ad) ad 40 σ) s.heap.size = A at hD ⊢
  have hA : ∀ q : Nat, s.heap.size ≤ q → A q := fun q h => by rw [← hAe]; exact Or.inr h
  have hS : va_S A s.heap s.heap [] := va_S.rf
  have hl := lv_entry ([.ref (ad 0), .int a1, .int a2]) (n := 3) (Nat.le_of_ble_eq_true rfl)
  rw [lg_entry_eq]
  generalize (lg_sl ([.ref (ad 0), .int a1, .int a2]) ++ List.replicate (3 - (lg_sl ([.ref (ad 0), .int a1, .int a2])).length) Slot.unset).toArray = ls at hl ⊢
  have hl : lv_has ls 3 [(0, .ref (ad 0)), (1, .int a1), (2, .int a2)] := hl
  unfold fX12_ofKeeper at h
  clear hAe hD0
  suffices HH : ∀ (H : Heap) (locs : List Loc) (ls : Array Slot), fX12_ofKeeper_0 σ a1 a2 = some r0 → va_P (dC, dI) vwCl (wG (cM cy ad) ad 40 σ) H → va_D A (wG (cM cy ad) ad 40 σ) → va_S A s.heap H locs → lv_has ls 3 [(0, .ref (ad 0)), (1, .int a1), (2, .int a2)] → W p l e (headSpec wsX12_ofKeeper ({ frames := 3, cells := 0, slots := 0, locals := 66 })).room s m (#[.ref (ad 0), .int a1, .int a2]) below meth c H locs 0 0 (MQ below (va_Qi (fun (r : Int32) (_ : Unit) => r = r0) (fun (_ : Unit) t => wAt (dC, dI) A (wG (cM cy ad) ad 40 σ) t) A) (#[.ref (ad 0), .int a1, .int a2]) s 0 0 A) (F0 m 0 ls []) from HH s.heap [] ls h hP hD hS hl
  have w0 : ∀ (σ : S2) (x1 : Int32) (x2 : Int32) (H : Heap) (locs : List Loc) (ls : Array Slot), fX12_ofKeeper_0 σ x1 x2 = some r0 → va_P (dC, dI) vwCl (wG (cM cy ad) ad 40 σ) H → va_D A (wG (cM cy ad) ad 40 σ) → va_S A s.heap H locs → lv_has ls 3 [(0, .ref (ad 0)), (1, .int x1), (2, .int x2)] → W p l e (headSpec wsX12_ofKeeper ({ frames := 3, cells := 0, slots := 0, locals := 66 })).room s m (#[.ref (ad 0), .int a1, .int a2]) below meth c H locs 0 0 (MQ below (va_Qi (fun (r : Int32) (_ : Unit) => r = r0) (fun (_ : Unit) t => wAt (dC, dI) A (wG (cM cy ad) ad 40 σ) t) A) (#[.ref (ad 0), .int a1, .int a2]) s 0 0 A) (F0 m 0 ls []) := by
    intro σ x1 x2 H locs ls h hP hD hS hl
    unfold fX12_ofKeeper_0 at h
    refine lv_aload_n hx hb dX12_ofKeeper_0 rfl (lv_at hl 0 rfl) ?_
    refine lv_iload_n hx hb dX12_ofKeeper_1 rfl (lv_at hl 1 rfl) ?_
    obtain ⟨r1, hf2, h⟩ := biS h
    refine ux_calli (va_runV (As := [.int x1]) (rest := []) ⟨hx, hb, hml, hown, hts⟩ (tX12_isKeeper l dC dI cy ad σ x1 H.size r1 hf2) (cwV 1 hts gX12_ofKeeper_X12_isKeeper rfl rfl rfl (by decide +kernel) ⟨Nat.le_of_ble_eq_true rfl, Nat.le_of_ble_eq_true rfl⟩) (wp_V hK hN hP hD (va_recv hK hP (ci := 12) (q0 := 0) rfl (wG_of (Nat.le_of_ble_eq_true rfl) rfl))) rfl rfl hl.1 rfl (lv_room (Nat.le_of_ble_eq_true rfl)) dX12_ofKeeper_2 ⟨Nat.le_of_ble_eq_true rfl, Nat.le_of_ble_eq_true rfl⟩) hD hS hA (fun H locs hP hD hS => ?_)
    refine lv_if_ne (tgt := 11) hx hb dX12_ofKeeper_5 (by decide) (fun hcd => ?_) (fun hcd => ?_)
    · have h := cdN hcd h
      refine lv_iload_n hx hb dX12_ofKeeper_11 rfl (lv_at hl 2 rfl) ?_
      by_cases hcd3 : x2 = 0
      · have h := cdP hcd3 h
        refine lv_tableIn (off := 48) (tgt := 60) hx hb dX12_ofKeeper_12 (by rw [hcd3]; decide) (by rw [hcd3]; decide) (by rw [hcd3]; rfl) (by decide) ?_
        refine lv_aload_n hx hb dX12_ofKeeper_60 rfl (lv_at hl 0 rfl) ?_
        refine ux_get (D := (dC, dI)) (ci := 12) (v := .ref (ad 5)) (C := RX12) (T := TX12) (M := 59) (fs := (oM ad (σ.1 0))) hx hb hts (fun _ h9 => List.mem_cons_of_mem _ (List.mem_append_right _ h9)) hown hK hP 0 (Nat.le_of_ble_eq_true rfl) rfl rfl 6 (by decide) (hts (.fieldLink RX12 22 "SeatsRoundModel" "kind" "[I") (List.mem_of_getElem? (i := 2) rfl)) (fun _ h9 => h9) rfl dX12_ofKeeper_61 ?_
        refine lv_iload_n hx hb dX12_ofKeeper_64 rfl (lv_at hl 1 rfl) ?_
        refine ux_iald hx hb hK hP 5 0 (Nat.le_of_ble_eq_true rfl) (cM_5 _ _ _ _) rfl h dX12_ofKeeper_65 (fun v4 h => ?_)
        exact ux_iretP hx hb hr h hP hD hS hlocks dX12_ofKeeper_66
      · have h := cdN hcd3 h
        have ihcd3 : ¬ x2.toInt = (0 : Int) := fun h9 => hcd3 (Int32.toInt_inj.mp h9)
        by_cases hcd5 : x2 = 1
        · have h := cdP hcd5 h
          refine lv_tableIn (off := 55) (tgt := 67) hx hb dX12_ofKeeper_12 (by rw [hcd5]; decide) (by rw [hcd5]; decide) (by rw [hcd5]; rfl) (by decide) ?_
          refine lv_aload_n hx hb dX12_ofKeeper_67 rfl (lv_at hl 0 rfl) ?_
          refine ux_get (D := (dC, dI)) (ci := 12) (v := .ref (ad 3)) (C := RX12) (T := TX12) (M := 59) (fs := (oM ad (σ.1 0))) hx hb hts (fun _ h9 => List.mem_cons_of_mem _ (List.mem_append_right _ h9)) hown hK hP 0 (Nat.le_of_ble_eq_true rfl) rfl rfl 4 (by decide) (hts (.fieldLink RX12 16 "SeatsRoundModel" "street" "[I") (List.mem_of_getElem? (i := 3) rfl)) (fun _ h9 => h9) rfl dX12_ofKeeper_68 ?_
          refine lv_iload_n hx hb dX12_ofKeeper_71 rfl (lv_at hl 1 rfl) ?_
          refine ux_iald hx hb hK hP 3 0 (Nat.le_of_ble_eq_true rfl) (cM_3 _ _ _ _) rfl h dX12_ofKeeper_72 (fun v6 h => ?_)
          exact ux_iretP hx hb hr h hP hD hS hlocks dX12_ofKeeper_73
        · have h := cdN hcd5 h
          have ihcd5 : ¬ x2.toInt = (1 : Int) := fun h9 => hcd5 (Int32.toInt_inj.mp h9)
          by_cases hcd7 : x2 = 2
          · have h := cdP hcd7 h
            refine lv_tableIn (off := 62) (tgt := 74) hx hb dX12_ofKeeper_12 (by rw [hcd7]; decide) (by rw [hcd7]; decide) (by rw [hcd7]; rfl) (by decide) ?_
            refine lv_aload_n hx hb dX12_ofKeeper_74 rfl (lv_at hl 0 rfl) ?_
            refine ux_get (D := (dC, dI)) (ci := 12) (v := .ref (ad 4)) (C := RX12) (T := TX12) (M := 59) (fs := (oM ad (σ.1 0))) hx hb hts (fun _ h9 => List.mem_cons_of_mem _ (List.mem_append_right _ h9)) hown hK hP 0 (Nat.le_of_ble_eq_true rfl) rfl rfl 5 (by decide) (hts (.fieldLink RX12 19 "SeatsRoundModel" "strength" "[I") (List.mem_of_getElem? (i := 4) rfl)) (fun _ h9 => h9) rfl dX12_ofKeeper_75 ?_
            refine lv_iload_n hx hb dX12_ofKeeper_78 rfl (lv_at hl 1 rfl) ?_
            refine ux_iald hx hb hK hP 4 0 (Nat.le_of_ble_eq_true rfl) (cM_4 _ _ _ _) rfl h dX12_ofKeeper_79 (fun v8 h => ?_)
            exact ux_iretP hx hb hr h hP hD hS hlocks dX12_ofKeeper_80
          · have h := cdN hcd7 h
            have ihcd7 : ¬ x2.toInt = (2 : Int) := fun h9 => hcd7 (Int32.toInt_inj.mp h9)
            by_cases hcd9 : x2 = 3
            · have h := cdP hcd9 h
              refine lv_tableIn (off := 69) (tgt := 81) hx hb dX12_ofKeeper_12 (by rw [hcd9]; decide) (by rw [hcd9]; decide) (by rw [hcd9]; rfl) (by decide) ?_
              refine lv_aload_n hx hb dX12_ofKeeper_81 rfl (lv_at hl 0 rfl) ?_
              refine lv_iload_n hx hb dX12_ofKeeper_82 rfl (lv_at hl 1 rfl) ?_
              obtain ⟨r10, hf11, h⟩ := biS h
              refine ux_calli (va_runV (As := [.int x1]) (rest := []) ⟨hx, hb, hml, hown, hts⟩ (tX12_countsNow l dC dI cy ad σ x1 H.size r10 hf11) (cwV 1 hts gX12_ofKeeper_X12_countsNow rfl rfl rfl (by decide +kernel) ⟨Nat.le_of_ble_eq_true rfl, Nat.le_of_ble_eq_true rfl⟩) (wp_V hK hN hP hD (va_recv hK hP (ci := 12) (q0 := 0) rfl (wG_of (Nat.le_of_ble_eq_true rfl) rfl))) rfl rfl hl.1 rfl (lv_room (Nat.le_of_ble_eq_true rfl)) dX12_ofKeeper_83 ⟨Nat.le_of_ble_eq_true rfl, Nat.le_of_ble_eq_true rfl⟩) hD hS hA (fun H locs hP hD hS => ?_)
              exact ux_iretP hx hb hr h hP hD hS hlocks dX12_ofKeeper_86
            · have h := cdN hcd9 h
              have ihcd9 : ¬ x2.toInt = (3 : Int) := fun h9 => hcd9 (Int32.toInt_inj.mp h9)
              by_cases hcd12 : x2 = 4
              · have h := cdP hcd12 h
                refine lv_tableIn (off := 75) (tgt := 87) hx hb dX12_ofKeeper_12 (by rw [hcd12]; decide) (by rw [hcd12]; decide) (by rw [hcd12]; rfl) (by decide) ?_
                refine lv_aload_n hx hb dX12_ofKeeper_87 rfl (lv_at hl 0 rfl) ?_
                refine ux_get (D := (dC, dI)) (ci := 12) (v := .ref (ad 6)) (C := RX12) (T := TX12) (M := 59) (fs := (oM ad (σ.1 0))) hx hb hts (fun _ h9 => List.mem_cons_of_mem _ (List.mem_append_right _ h9)) hown hK hP 0 (Nat.le_of_ble_eq_true rfl) rfl rfl 7 (by decide) (hts (.fieldLink RX12 25 "SeatsRoundModel" "known" "[I") (List.mem_of_getElem? (i := 5) rfl)) (fun _ h9 => h9) rfl dX12_ofKeeper_88 ?_
                refine lv_iload_n hx hb dX12_ofKeeper_91 rfl (lv_at hl 1 rfl) ?_
                refine ux_iald hx hb hK hP 6 0 (Nat.le_of_ble_eq_true rfl) (cM_6 _ _ _ _) rfl h dX12_ofKeeper_92 (fun v13 h => ?_)
                exact ux_iretP hx hb hr h hP hD hS hlocks dX12_ofKeeper_93
              · have h := cdN hcd12 h
                have ihcd12 : ¬ x2.toInt = (4 : Int) := fun h9 => hcd12 (Int32.toInt_inj.mp h9)
                by_cases hcd14 : x2 = 5
                · have h := cdP hcd14 h
                  refine lv_tableIn (off := 82) (tgt := 94) hx hb dX12_ofKeeper_12 (by rw [hcd14]; decide) (by rw [hcd14]; decide) (by rw [hcd14]; rfl) (by decide) ?_
                  refine lv_aload_n hx hb dX12_ofKeeper_94 rfl (lv_at hl 0 rfl) ?_
                  refine lv_iload_n hx hb dX12_ofKeeper_95 rfl (lv_at hl 1 rfl) ?_
                  refine lv_iconst (v := 1) hx hb dX12_ofKeeper_96 (by decide) ?_
                  obtain ⟨r15, hf16, h⟩ := biS h
                  refine ux_calli (va_runV (As := [.int x1, .int 1]) (rest := []) ⟨hx, hb, hml, hown, hts⟩ (tX12_many l dC dI cy ad σ x1 1 H.size r15 hf16) (cwV 2 hts gX12_ofKeeper_X12_many rfl rfl rfl (by decide +kernel) ⟨Nat.le_of_ble_eq_true rfl, Nat.le_of_ble_eq_true rfl⟩) (wp_V hK hN hP hD (va_recv hK hP (ci := 12) (q0 := 0) rfl (wG_of (Nat.le_of_ble_eq_true rfl) rfl))) rfl rfl hl.1 rfl (lv_room (Nat.le_of_ble_eq_true rfl)) dX12_ofKeeper_97 ⟨Nat.le_of_ble_eq_true rfl, Nat.le_of_ble_eq_true rfl⟩) hD hS hA (fun H locs hP hD hS => ?_)
                  exact ux_iretP hx hb hr h hP hD hS hlocks dX12_ofKeeper_100
                · have h := cdN hcd14 h
                  have ihcd14 : ¬ x2.toInt = (5 : Int) := fun h9 => hcd14 (Int32.toInt_inj.mp h9)
                  by_cases hcd17 : x2 = 6
                  · have h := cdP hcd17 h
                    refine lv_tableIn (off := 89) (tgt := 101) hx hb dX12_ofKeeper_12 (by rw [hcd17]; decide) (by rw [hcd17]; decide) (by rw [hcd17]; rfl) (by decide) ?_
                    refine lv_aload_n hx hb dX12_ofKeeper_101 rfl (lv_at hl 0 rfl) ?_
                    refine lv_iload_n hx hb dX12_ofKeeper_102 rfl (lv_at hl 1 rfl) ?_
                    refine lv_iconst (v := 0) hx hb dX12_ofKeeper_103 (by decide) ?_
                    obtain ⟨r18, hf19, h⟩ := biS h
                    refine ux_calli (va_runV (As := [.int x1, .int 0]) (rest := []) ⟨hx, hb, hml, hown, hts⟩ (tX12_many l dC dI cy ad σ x1 0 H.size r18 hf19) (cwV 2 hts gX12_ofKeeper_X12_many rfl rfl rfl (by decide +kernel) ⟨Nat.le_of_ble_eq_true rfl, Nat.le_of_ble_eq_true rfl⟩) (wp_V hK hN hP hD (va_recv hK hP (ci := 12) (q0 := 0) rfl (wG_of (Nat.le_of_ble_eq_true rfl) rfl))) rfl rfl hl.1 rfl (lv_room (Nat.le_of_ble_eq_true rfl)) dX12_ofKeeper_104 ⟨Nat.le_of_ble_eq_true rfl, Nat.le_of_ble_eq_true rfl⟩) hD hS hA (fun H locs hP hD hS => ?_)
                    exact ux_iretP hx hb hr h hP hD hS hlocks dX12_ofKeeper_107
                  · have h := cdN hcd17 h
                    have ihcd17 : ¬ x2.toInt = (6 : Int) := fun h9 => hcd17 (Int32.toInt_inj.mp h9)
                    by_cases hcd20 : x2 = 7
                    · have h := cdP hcd20 h
                      refine lv_tableIn (off := 96) (tgt := 108) hx hb dX12_ofKeeper_12 (by rw [hcd20]; decide) (by rw [hcd20]; decide) (by rw [hcd20]; rfl) (by decide) ?_
                      refine lv_aload_n hx hb dX12_ofKeeper_108 rfl (lv_at hl 0 rfl) ?_
                      refine ux_get (D := (dC, dI)) (ci := 12) (v := .ref (ad 7)) (C := RX12) (T := TX12) (M := 59) (fs := (oM ad (σ.1 0))) hx hb hts (fun _ h9 => List.mem_cons_of_mem _ (List.mem_append_right _ h9)) hown hK hP 0 (Nat.le_of_ble_eq_true rfl) rfl rfl 8 (by decide) (hts (.fieldLink RX12 28 "SeatsRoundModel" "isFallen" "[Z") (List.mem_of_getElem? (i := 6) rfl)) (fun _ h9 => h9) rfl dX12_ofKeeper_109 ?_
                      refine lv_iload_n hx hb dX12_ofKeeper_112 rfl (lv_at hl 1 rfl) ?_
                      refine ux_zald hx hb hK hP 7 2 (Nat.le_of_ble_eq_true rfl) (cM_7 _ _ _ _) rfl h dX12_ofKeeper_113 (fun v21 h => ?_)
                      refine lv_if_eq (tgt := 121) hx hb dX12_ofKeeper_114 (by decide) (fun hcd => ?_) (fun hcd => ?_)
                      · have h := cdP hcd h
                        refine lv_iconst (v := 0) hx hb dX12_ofKeeper_121 (by decide) ?_
                        exact ux_iretP hx hb hr h hP hD hS hlocks dX12_ofKeeper_122
                      · have h := cdN hcd h
                        refine lv_iconst (v := 1) hx hb dX12_ofKeeper_117 (by decide) ?_
                        refine lv_goto (tgt := 122) hx hb dX12_ofKeeper_118 (by decide) ?_
                        exact ux_iretP hx hb hr h hP hD hS hlocks dX12_ofKeeper_122
                    · have h := cdN hcd20 h
                      have ihcd20 : ¬ x2.toInt = (7 : Int) := fun h9 => hcd20 (Int32.toInt_inj.mp h9)
                      refine lv_tableOut (tgt := 123) hx hb dX12_ofKeeper_12 (by omega) (by decide) ?_
                      refine lv_ldc hx hb hown (hts (.constant RX12 169 (-2000000000)) (List.mem_of_getElem? (i := 1) rfl)) dX12_ofKeeper_123 ?_
                      exact ux_iretP hx hb hr h hP hD hS hlocks dX12_ofKeeper_125
    · have h := cdP hcd h
      refine lv_ldc hx hb hown (hts (.constant RX12 169 (-2000000000)) (List.mem_of_getElem? (i := 1) rfl)) dX12_ofKeeper_8 ?_
      exact ux_iretP hx hb hr h hP hD hS hlocks dX12_ofKeeper_10
  intro H locs ls h hP hD hS hl
  exact w0 σ a1 a2 H locs ls h hP hD hS (lv_sub hl [0, 1, 2] rfl)

set_option maxHeartbeats 4000000 in
set_option maxRecDepth 100000 in
theorem tX12_here (l : Launch) (dC : Nat → ClassId) (dI : Nat → Nat → Nat) (cy : Nat → ClassId) (ad : Nat → Nat) (σ : S2)  (sz : Nat) (r0 : Int32) (h : fX12_here σ = some r0) : Met l yX12_here wsX12_here ({ frames := 1, cells := 0, slots := 0, locals := 23 }) (va_Pc [.ref (ad 0)] (wPre (dC, dI) cy (wG (cM cy ad) ad 40 σ) sz)) (va_Qi (fun (r : Int32) (_ : Unit) => r = r0) (fun (_ : Unit) t => wAt (dC, dI) (va_A (wG (cM cy ad) ad 40 σ) sz) (wG (cM cy ad) ad 40 σ) t) (va_A (wG (cM cy ad) ad 40 σ) sz)) 0 0 (va_A (wG (cM cy ad) ad 40 σ) sz) := by
  refine Met.ofW (cc := cX12_here) (maxL := 1) (ret := (some .int)) (by decide) rfl ?_
  intro p e s m args below meth c s₁ B hml hv
  obtain ⟨rfl, hsz, hP, hK, hD0, hN⟩ := hv
  have hx := B.exec
  have hb := B.bytes
  have hr := B.returns
  have hts := atoms_spec (ws := wsX12_here) B.pre
  have hown : s.vm.findClass RX12 = some m.cls := findClass_of_methodNamed B.named
  have hlocks := B.notSynchronized
  subst hsz
  have hD := hD0.self (sz := s.heap.size)
  generalize hAe : va_A (wG (cM cy ad) ad 40 σ) s.heap.size = A at hD ⊢
  have hA : ∀ q : Nat, s.heap.size ≤ q → A q := fun q h => by rw [← hAe]; exact Or.inr h
  have hS : va_S A s.heap s.heap [] := va_S.rf
  have hl := lv_entry ([.ref (ad 0)]) (n := 1) (Nat.le_of_ble_eq_true rfl)
  rw [lg_entry_eq]
  generalize (lg_sl ([.ref (ad 0)]) ++ List.replicate (1 - (lg_sl ([.ref (ad 0)])).length) Slot.unset).toArray = ls at hl ⊢
  have hl : lv_has ls 1 [(0, .ref (ad 0))] := hl
  unfold fX12_here at h
  clear hAe hD0
  suffices HH : ∀ (H : Heap) (locs : List Loc) (ls : Array Slot), fX12_here_0 σ = some r0 → va_P (dC, dI) vwCl (wG (cM cy ad) ad 40 σ) H → va_D A (wG (cM cy ad) ad 40 σ) → va_S A s.heap H locs → lv_has ls 1 [(0, .ref (ad 0))] → W p l e (headSpec wsX12_here ({ frames := 1, cells := 0, slots := 0, locals := 23 })).room s m (#[.ref (ad 0)]) below meth c H locs 0 0 (MQ below (va_Qi (fun (r : Int32) (_ : Unit) => r = r0) (fun (_ : Unit) t => wAt (dC, dI) A (wG (cM cy ad) ad 40 σ) t) A) (#[.ref (ad 0)]) s 0 0 A) (F0 m 0 ls []) from HH s.heap [] ls h hP hD hS hl
  have w0 : ∀ (σ : S2)  (H : Heap) (locs : List Loc) (ls : Array Slot), fX12_here_0 σ = some r0 → va_P (dC, dI) vwCl (wG (cM cy ad) ad 40 σ) H → va_D A (wG (cM cy ad) ad 40 σ) → va_S A s.heap H locs → lv_has ls 1 [(0, .ref (ad 0))] → W p l e (headSpec wsX12_here ({ frames := 1, cells := 0, slots := 0, locals := 23 })).room s m (#[.ref (ad 0)]) below meth c H locs 0 0 (MQ below (va_Qi (fun (r : Int32) (_ : Unit) => r = r0) (fun (_ : Unit) t => wAt (dC, dI) A (wG (cM cy ad) ad 40 σ) t) A) (#[.ref (ad 0)]) s 0 0 A) (F0 m 0 ls []) := by
    intro σ H locs ls h hP hD hS hl
    unfold fX12_here_0 at h
    refine lv_aload_n hx hb dX12_here_0 rfl (lv_at hl 0 rfl) ?_
    refine ux_get (D := (dC, dI)) (ci := 12) (v := .int (σ.1 0 45)) (C := RX12) (T := TX12) (M := 59) (fs := (oM ad (σ.1 0))) hx hb hts (fun _ h9 => List.mem_cons_of_mem _ (List.mem_append_right _ h9)) hown hK hP 0 (Nat.le_of_ble_eq_true rfl) rfl rfl 45 (by decide) (hts (.fieldLink RX12 177 "SeatsRoundModel" "at" "I") (List.mem_of_getElem? (i := 1) rfl)) (fun _ h9 => h9) rfl dX12_here_1 ?_
    refine lv_aload_n hx hb dX12_here_4 rfl (lv_at hl 0 rfl) ?_
    refine ux_get (D := (dC, dI)) (ci := 12) (v := .ref (ad 13)) (C := RX12) (T := TX12) (M := 59) (fs := (oM ad (σ.1 0))) hx hb hts (fun _ h9 => List.mem_cons_of_mem _ (List.mem_append_right _ h9)) hown hK hP 0 (Nat.le_of_ble_eq_true rfl) rfl rfl 15 (by decide) (hts (.fieldLink RX12 47 "SeatsRoundModel" "lawSize" "[I") (List.mem_of_getElem? (i := 2) rfl)) (fun _ h9 => h9) rfl dX12_here_5 ?_
    refine lv_aload_n hx hb dX12_here_8 rfl (lv_at hl 0 rfl) ?_
    refine ux_get (D := (dC, dI)) (ci := 12) (v := .int (σ.1 0 44)) (C := RX12) (T := TX12) (M := 59) (fs := (oM ad (σ.1 0))) hx hb hts (fun _ h9 => List.mem_cons_of_mem _ (List.mem_append_right _ h9)) hown hK hP 0 (Nat.le_of_ble_eq_true rfl) rfl rfl 44 (by decide) (hts (.fieldLink RX12 180 "SeatsRoundModel" "lawTable" "I") (List.mem_of_getElem? (i := 3) rfl)) (fun _ h9 => h9) rfl dX12_here_9 ?_
    refine ux_iald hx hb hK hP 13 0 (Nat.le_of_ble_eq_true rfl) (cM_13 _ _ _ _) rfl h dX12_here_12 (fun v1 h => ?_)
    refine lv_icmp_ge (tgt := 36) hx hb dX12_here_13 (by decide) (fun hcd => ?_) (fun hcd => ?_)
    · have h := cdP hcd h
      refine lv_iconst (v := (-1)) hx hb dX12_here_36 (by decide) ?_
      exact ux_iretP hx hb hr h hP hD hS hlocks dX12_here_37
    · have h := cdN hcd h
      refine lv_aload_n hx hb dX12_here_16 rfl (lv_at hl 0 rfl) ?_
      refine ux_get (D := (dC, dI)) (ci := 12) (v := .ref (ad 14)) (C := RX12) (T := TX12) (M := 59) (fs := (oM ad (σ.1 0))) hx hb hts (fun _ h9 => List.mem_cons_of_mem _ (List.mem_append_right _ h9)) hown hK hP 0 (Nat.le_of_ble_eq_true rfl) rfl rfl 16 (by decide) (hts (.fieldLink RX12 50 "SeatsRoundModel" "lawByte" "[I") (List.mem_of_getElem? (i := 4) rfl)) (fun _ h9 => h9) rfl dX12_here_17 ?_
      refine lv_bipush (v := 80) hx hb dX12_here_20 (by decide) ?_
      refine lv_aload_n hx hb dX12_here_22 rfl (lv_at hl 0 rfl) ?_
      refine ux_get (D := (dC, dI)) (ci := 12) (v := .int (σ.1 0 44)) (C := RX12) (T := TX12) (M := 59) (fs := (oM ad (σ.1 0))) hx hb hts (fun _ h9 => List.mem_cons_of_mem _ (List.mem_append_right _ h9)) hown hK hP 0 (Nat.le_of_ble_eq_true rfl) rfl rfl 44 (by decide) (hts (.fieldLink RX12 180 "SeatsRoundModel" "lawTable" "I") (List.mem_of_getElem? (i := 3) rfl)) (fun _ h9 => h9) rfl dX12_here_23 ?_
      refine lv_imul hx hb dX12_here_26 ?_
      refine lv_aload_n hx hb dX12_here_27 rfl (lv_at hl 0 rfl) ?_
      refine ux_get (D := (dC, dI)) (ci := 12) (v := .int (σ.1 0 45)) (C := RX12) (T := TX12) (M := 59) (fs := (oM ad (σ.1 0))) hx hb hts (fun _ h9 => List.mem_cons_of_mem _ (List.mem_append_right _ h9)) hown hK hP 0 (Nat.le_of_ble_eq_true rfl) rfl rfl 45 (by decide) (hts (.fieldLink RX12 177 "SeatsRoundModel" "at" "I") (List.mem_of_getElem? (i := 1) rfl)) (fun _ h9 => h9) rfl dX12_here_28 ?_
      change W _ _ _ _ _ _ _ _ _ _ _ _ _ _ _ (F0 m 31 ls [.int (σ.1 0 45), .int (80 * (σ.1 0 44)), .ref (ad 14)])
      refine lv_iadd hx hb dX12_here_31 ?_
      refine ux_iald hx hb hK hP 14 0 (Nat.le_of_ble_eq_true rfl) (cM_14 _ _ _ _) rfl h dX12_here_32 (fun v2 h => ?_)
      refine lv_goto (tgt := 37) hx hb dX12_here_33 (by decide) ?_
      exact ux_iretP hx hb hr h hP hD hS hlocks dX12_here_37
  intro H locs ls h hP hD hS hl
  exact w0 σ H locs ls h hP hD hS (lv_sub hl [0] rfl)

set_option maxHeartbeats 4000000 in
set_option maxRecDepth 100000 in
theorem tX12_eats (l : Launch) (dC : Nat → ClassId) (dI : Nat → Nat → Nat) (cy : Nat → ClassId) (ad : Nat → Nat) (σ : S2) (a1 : Int32) (sz : Nat) (r0 : Unit) (σ9 : S2) (h : fX12_eats σ a1 = some (r0, σ9)) : Met l yX12_eats wsX12_eats ({ frames := 2, cells := 0, slots := 0, locals := 43 }) (va_Pc [.ref (ad 0), .int a1] (wPre (dC, dI) cy (wG (cM cy ad) ad 40 σ) sz)) (va_Qv (fun (_ : Unit) => True) (fun (_ : Unit) t => wAt (dC, dI) (va_A (wG (cM cy ad) ad 40 σ) sz) (wG (cM cy ad) ad 40 σ9) t) (va_A (wG (cM cy ad) ad 40 σ) sz)) 0 0 (va_A (wG (cM cy ad) ad 40 σ) sz) := by
  refine Met.ofW (cc := cX12_eats) (maxL := 2) (ret := none) (by decide) rfl ?_
  intro p e s m args below meth c s₁ B hml hv
  obtain ⟨rfl, hsz, hP, hK, hD0, hN⟩ := hv
  have hx := B.exec
  have hb := B.bytes
  have hr := B.returns
  have hts := atoms_spec (ws := wsX12_eats) B.pre
  have hown : s.vm.findClass RX12 = some m.cls := findClass_of_methodNamed B.named
  have hlocks := B.notSynchronized
  subst hsz
  have hD := hD0.self (sz := s.heap.size)
  generalize hAe : va_A (wG (cM cy ad) ad 40 σ) s.heap.size = A at hD ⊢
  have hA : ∀ q : Nat, s.heap.size ≤ q → A q := fun q h => by rw [← hAe]; exact Or.inr h
  have hS : va_S A s.heap s.heap [] := va_S.rf
  have hl := lv_entry ([.ref (ad 0), .int a1]) (n := 2) (Nat.le_of_ble_eq_true rfl)
  rw [lg_entry_eq]
  generalize (lg_sl ([.ref (ad 0), .int a1]) ++ List.replicate (2 - (lg_sl ([.ref (ad 0), .int a1])).length) Slot.unset).toArray = ls at hl ⊢
  have hl : lv_has ls 2 [(0, .ref (ad 0)), (1, .int a1)] := hl
  unfold fX12_eats at h
  clear hAe hD0
  suffices HH : ∀ (H : Heap) (locs : List Loc) (ls : Array Slot), fX12_eats_0 σ a1 = some (r0, σ9) → va_P (dC, dI) vwCl (wG (cM cy ad) ad 40 σ) H → va_D A (wG (cM cy ad) ad 40 σ) → va_S A s.heap H locs → lv_has ls 2 [(0, .ref (ad 0)), (1, .int a1)] → W p l e (headSpec wsX12_eats ({ frames := 2, cells := 0, slots := 0, locals := 43 })).room s m (#[.ref (ad 0), .int a1]) below meth c H locs 0 0 (MQ below (va_Qv (fun (_ : Unit) => True) (fun (_ : Unit) t => wAt (dC, dI) A (wG (cM cy ad) ad 40 σ9) t) A) (#[.ref (ad 0), .int a1]) s 0 0 A) (F0 m 0 ls []) from HH s.heap [] ls h hP hD hS hl
  have w28 : ∀ (σ : S2)  (H : Heap) (locs : List Loc) (ls : Array Slot), fX12_eats_28 σ = some (r0, σ9) → va_P (dC, dI) vwCl (wG (cM cy ad) ad 40 σ) H → va_D A (wG (cM cy ad) ad 40 σ) → va_S A s.heap H locs → lv_has ls 2 [(0, .ref (ad 0))] → W p l e (headSpec wsX12_eats ({ frames := 2, cells := 0, slots := 0, locals := 43 })).room s m (#[.ref (ad 0), .int a1]) below meth c H locs 0 0 (MQ below (va_Qv (fun (_ : Unit) => True) (fun (_ : Unit) t => wAt (dC, dI) A (wG (cM cy ad) ad 40 σ9) t) A) (#[.ref (ad 0), .int a1]) s 0 0 A) (F0 m 28 ls []) := by
    intro σ H locs ls h hP hD hS hl
    unfold fX12_eats_28 at h
    refine lv_aload_n hx hb dX12_eats_28 rfl (lv_at hl 0 rfl) ?_
    refine lv_iconst (v := 1) hx hb dX12_eats_29 (by decide) ?_
    refine ux_put (D := (dC, dI)) (ci := 12) (C := RX12) (T := TX12) (M := 59) (fs := (oM ad (σ.1 0))) hx hb hts (fun _ h9 => List.mem_cons_of_mem _ (List.mem_append_right _ h9)) tyX12 tyX12_ok nmX12 hown hK hP hD hS 0 (Nat.le_of_ble_eq_true rfl) rfl rfl 47 (by decide) (hts (.fieldLink RX12 183 "SeatsRoundModel" "isFaulty" "Z") (List.mem_of_getElem? (i := 1) rfl)) (fun _ h9 => h9) rfl (tyX12_ok 47 (by decide)) rfl rfl (Nat.le_of_ble_eq_true rfl) (oM_set_47 _ _ _ _ _) h dX12_eats_30 (fun σ1 H locs h hP hD hS => ?_)
    exact ux_vret hx hb hr h hP hD hS hlocks dX12_eats_33
  have w0 : ∀ (σ : S2) (x1 : Int32) (H : Heap) (locs : List Loc) (ls : Array Slot), fX12_eats_0 σ x1 = some (r0, σ9) → va_P (dC, dI) vwCl (wG (cM cy ad) ad 40 σ) H → va_D A (wG (cM cy ad) ad 40 σ) → va_S A s.heap H locs → lv_has ls 2 [(0, .ref (ad 0)), (1, .int x1)] → W p l e (headSpec wsX12_eats ({ frames := 2, cells := 0, slots := 0, locals := 43 })).room s m (#[.ref (ad 0), .int a1]) below meth c H locs 0 0 (MQ below (va_Qv (fun (_ : Unit) => True) (fun (_ : Unit) t => wAt (dC, dI) A (wG (cM cy ad) ad 40 σ9) t) A) (#[.ref (ad 0), .int a1]) s 0 0 A) (F0 m 0 ls []) := by
    intro σ x1 H locs ls h hP hD hS hl
    unfold fX12_eats_0 at h
    refine lv_aload_n hx hb dX12_eats_0 rfl (lv_at hl 0 rfl) ?_
    refine ux_get (D := (dC, dI)) (ci := 12) (v := .int (σ.1 0 47)) (C := RX12) (T := TX12) (M := 59) (fs := (oM ad (σ.1 0))) hx hb hts (fun _ h9 => List.mem_cons_of_mem _ (List.mem_append_right _ h9)) hown hK hP 0 (Nat.le_of_ble_eq_true rfl) rfl rfl 47 (by decide) (hts (.fieldLink RX12 183 "SeatsRoundModel" "isFaulty" "Z") (List.mem_of_getElem? (i := 1) rfl)) (fun _ h9 => h9) rfl dX12_eats_1 ?_
    refine lv_if_ne (tgt := 28) hx hb dX12_eats_4 (by decide) (fun hcd => ?_) (fun hcd => ?_)
    · have h := cdN hcd h
      exact w28 σ H locs ls h hP hD hS (lv_sub hl [0] rfl)
    · have h := cdP hcd h
      refine lv_aload_n hx hb dX12_eats_7 rfl (lv_at hl 0 rfl) ?_
      obtain ⟨r2, hf3, h⟩ := biS h
      refine ux_calli (va_runV (As := []) (rest := []) ⟨hx, hb, hml, hown, hts⟩ (tX12_here l dC dI cy ad σ H.size r2 hf3) (cwV 0 hts gX12_eats_X12_here rfl rfl rfl (by decide +kernel) ⟨Nat.le_of_ble_eq_true rfl, Nat.le_of_ble_eq_true rfl⟩) (wp_V hK hN hP hD (va_recv hK hP (ci := 12) (q0 := 0) rfl (wG_of (Nat.le_of_ble_eq_true rfl) rfl))) rfl rfl hl.1 rfl (lv_room (Nat.le_of_ble_eq_true rfl)) dX12_eats_8 ⟨Nat.le_of_ble_eq_true rfl, Nat.le_of_ble_eq_true rfl⟩) hD hS hA (fun H locs hP hD hS => ?_)
      refine lv_iload_n hx hb dX12_eats_11 rfl (lv_at hl 1 rfl) ?_
      refine lv_icmp_ne (tgt := 28) hx hb dX12_eats_12 (by decide) (fun hcd => ?_) (fun hcd => ?_)
      · have h := cdN hcd h
        exact w28 σ H locs ls h hP hD hS (lv_sub hl [0] rfl)
      · have h := cdP hcd h
        refine lv_aload_n hx hb dX12_eats_15 rfl (lv_at hl 0 rfl) ?_
        refine lv_dup hx hb dX12_eats_16 rfl ?_
        refine ux_get (D := (dC, dI)) (ci := 12) (v := .int (σ.1 0 45)) (C := RX12) (T := TX12) (M := 59) (fs := (oM ad (σ.1 0))) hx hb hts (fun _ h9 => List.mem_cons_of_mem _ (List.mem_append_right _ h9)) hown hK hP 0 (Nat.le_of_ble_eq_true rfl) rfl rfl 45 (by decide) (hts (.fieldLink RX12 177 "SeatsRoundModel" "at" "I") (List.mem_of_getElem? (i := 2) rfl)) (fun _ h9 => h9) rfl dX12_eats_17 ?_
        refine lv_iconst (v := 1) hx hb dX12_eats_20 (by decide) ?_
        refine lv_iadd hx hb dX12_eats_21 ?_
        refine ux_put (D := (dC, dI)) (ci := 12) (C := RX12) (T := TX12) (M := 59) (fs := (oM ad (σ.1 0))) hx hb hts (fun _ h9 => List.mem_cons_of_mem _ (List.mem_append_right _ h9)) tyX12 tyX12_ok nmX12 hown hK hP hD hS 0 (Nat.le_of_ble_eq_true rfl) rfl rfl 45 (by decide) (hts (.fieldLink RX12 177 "SeatsRoundModel" "at" "I") (List.mem_of_getElem? (i := 2) rfl)) (fun _ h9 => h9) rfl (tyX12_ok 45 (by decide)) rfl rfl (Nat.le_of_ble_eq_true rfl) (oM_set_45 _ _ _ _ _) h dX12_eats_22 (fun σ4 H locs h hP hD hS => ?_)
        refine lv_goto (tgt := 33) hx hb dX12_eats_25 (by decide) ?_
        exact ux_vret hx hb hr h hP hD hS hlocks dX12_eats_33
  intro H locs ls h hP hD hS hl
  exact w0 σ a1 H locs ls h hP hD hS (lv_sub hl [0, 1] rfl)

set_option maxHeartbeats 4000000 in
set_option maxRecDepth 100000 in
theorem uX12_sum (l : Launch) (dC : Nat → ClassId) (dI : Nat → Nat → Nat) (cy : Nat → ClassId) (ad : Nat → Nat) (d : Nat) (qX12_sum : S2 → Option (Int32 × S2)) (hqX12_sum : ∀ (σ : S2) (sz : Nat) (r0 : Int32) (σ9 : S2), qX12_sum σ = some (r0, σ9) → Met l yX12_sum wsX12_sum ({ frames := 3 + d, cells := 0, slots := 0, locals := 64 + 23 * d }) (va_Pc [.ref (ad 0)] (wPre (dC, dI) cy (wG (cM cy ad) ad 40 σ) sz)) (va_Qi (fun (r : Int32) (_ : Unit) => r = r0) (fun (_ : Unit) t => wAt (dC, dI) (va_A (wG (cM cy ad) ad 40 σ) sz) (wG (cM cy ad) ad 40 σ9) t) (va_A (wG (cM cy ad) ad 40 σ) sz)) 0 0 (va_A (wG (cM cy ad) ad 40 σ) sz)) (qX12_product : S2 → Option (Int32 × S2)) (hqX12_product : ∀ (σ : S2) (sz : Nat) (r0 : Int32) (σ9 : S2), qX12_product σ = some (r0, σ9) → Met l yX12_product wsX12_product ({ frames := 3 + d, cells := 0, slots := 0, locals := 64 + 23 * d }) (va_Pc [.ref (ad 0)] (wPre (dC, dI) cy (wG (cM cy ad) ad 40 σ) sz)) (va_Qi (fun (r : Int32) (_ : Unit) => r = r0) (fun (_ : Unit) t => wAt (dC, dI) (va_A (wG (cM cy ad) ad 40 σ) sz) (wG (cM cy ad) ad 40 σ9) t) (va_A (wG (cM cy ad) ad 40 σ) sz)) 0 0 (va_A (wG (cM cy ad) ad 40 σ) sz)) (qX12_one : S2 → Option (Int32 × S2)) (hqX12_one : ∀ (σ : S2) (sz : Nat) (r0 : Int32) (σ9 : S2), qX12_one σ = some (r0, σ9) → Met l yX12_one wsX12_one ({ frames := 3 + d, cells := 0, slots := 0, locals := 64 + 23 * d }) (va_Pc [.ref (ad 0)] (wPre (dC, dI) cy (wG (cM cy ad) ad 40 σ) sz)) (va_Qi (fun (r : Int32) (_ : Unit) => r = r0) (fun (_ : Unit) t => wAt (dC, dI) (va_A (wG (cM cy ad) ad 40 σ) sz) (wG (cM cy ad) ad 40 σ9) t) (va_A (wG (cM cy ad) ad 40 σ) sz)) 0 0 (va_A (wG (cM cy ad) ad 40 σ) sz)) (σ : S2)  (sz : Nat) (r0 : Int32) (σ9 : S2) (h : eX12_sum qX12_sum qX12_product qX12_one σ = some (r0, σ9)) : Met l yX12_sum wsX12_sum ({ frames := 3 + (d + 1), cells := 0, slots := 0, locals := 64 + 23 * (d + 1) }) (va_Pc [.ref (ad 0)] (wPre (dC, dI) cy (wG (cM cy ad) ad 40 σ) sz)) (va_Qi (fun (r : Int32) (_ : Unit) => r = r0) (fun (_ : Unit) t => wAt (dC, dI) (va_A (wG (cM cy ad) ad 40 σ) sz) (wG (cM cy ad) ad 40 σ9) t) (va_A (wG (cM cy ad) ad 40 σ) sz)) 0 0 (va_A (wG (cM cy ad) ad 40 σ) sz) := by
  refine Met.ofW (cc := cX12_sum) (maxL := 4) (ret := (some .int)) (by decide) rfl ?_
  intro p e s m args below meth c s₁ B hml hv
  obtain ⟨rfl, hsz, hP, hK, hD0, hN⟩ := hv
  have hx := B.exec
  have hb := B.bytes
  have hr := B.returns
  have hts := atoms_spec (ws := wsX12_sum) B.pre
  have hown : s.vm.findClass RX12 = some m.cls := findClass_of_methodNamed B.named
  have hlocks := B.notSynchronized
  subst hsz
  have hD := hD0.self (sz := s.heap.size)
  generalize hAe : va_A (wG (cM cy ad) ad 40 σ) s.heap.size = A at hD ⊢
  have hA : ∀ q : Nat, s.heap.size ≤ q → A q := fun q h => by rw [← hAe]; exact Or.inr h
  have hS : va_S A s.heap s.heap [] := va_S.rf
  have hl := lv_entry ([.ref (ad 0)]) (n := 4) (Nat.le_of_ble_eq_true rfl)
  rw [lg_entry_eq]
  generalize (lg_sl ([.ref (ad 0)]) ++ List.replicate (4 - (lg_sl ([.ref (ad 0)])).length) Slot.unset).toArray = ls at hl ⊢
  have hl : lv_has ls 4 [(0, .ref (ad 0))] := hl
  unfold eX12_sum at h
  clear hAe hD0
  suffices HH : ∀ (H : Heap) (locs : List Loc) (ls : Array Slot), fX12_sum_0 qX12_sum qX12_product qX12_one σ = some (r0, σ9) → va_P (dC, dI) vwCl (wG (cM cy ad) ad 40 σ) H → va_D A (wG (cM cy ad) ad 40 σ) → va_S A s.heap H locs → lv_has ls 4 [(0, .ref (ad 0))] → W p l e (headSpec wsX12_sum ({ frames := 3 + (d + 1), cells := 0, slots := 0, locals := 64 + 23 * (d + 1) })).room s m (#[.ref (ad 0)]) below meth c H locs 0 0 (MQ below (va_Qi (fun (r : Int32) (_ : Unit) => r = r0) (fun (_ : Unit) t => wAt (dC, dI) A (wG (cM cy ad) ad 40 σ9) t) A) (#[.ref (ad 0)]) s 0 0 A) (F0 m 0 ls []) from HH s.heap [] ls h hP hD hS hl
  have w73 : ∀ (k5 : S2 → Int32 → Option (Int32 × S2)) (hk5 : ∀ (σ : S2) (x1 : Int32) (H : Heap) (locs : List Loc) (ls : Array Slot), k5 σ x1 = some (r0, σ9) → va_P (dC, dI) vwCl (wG (cM cy ad) ad 40 σ) H → va_D A (wG (cM cy ad) ad 40 σ) → va_S A s.heap H locs → lv_has ls 4 [(0, .ref (ad 0)), (1, .int x1)] → W p l e (headSpec wsX12_sum ({ frames := 3 + (d + 1), cells := 0, slots := 0, locals := 64 + 23 * (d + 1) })).room s m (#[.ref (ad 0)]) below meth c H locs 0 0 (MQ below (va_Qi (fun (r : Int32) (_ : Unit) => r = r0) (fun (_ : Unit) t => wAt (dC, dI) A (wG (cM cy ad) ad 40 σ9) t) A) (#[.ref (ad 0)]) s 0 0 A) (F0 m 5 ls [])) , ∀ (σ : S2) (s0 : Int32) (H : Heap) (locs : List Loc) (ls : Array Slot), fX12_sum_73 qX12_sum qX12_product qX12_one k5 σ s0 = some (r0, σ9) → va_P (dC, dI) vwCl (wG (cM cy ad) ad 40 σ) H → va_D A (wG (cM cy ad) ad 40 σ) → va_S A s.heap H locs → lv_has ls 4 [(0, .ref (ad 0))] → W p l e (headSpec wsX12_sum ({ frames := 3 + (d + 1), cells := 0, slots := 0, locals := 64 + 23 * (d + 1) })).room s m (#[.ref (ad 0)]) below meth c H locs 0 0 (MQ below (va_Qi (fun (r : Int32) (_ : Unit) => r = r0) (fun (_ : Unit) t => wAt (dC, dI) A (wG (cM cy ad) ad 40 σ9) t) A) (#[.ref (ad 0)]) s 0 0 A) (F0 m 73 ls [.int s0]) := by
    intro k5 hk5 σ s0 H locs ls h hP hD hS hl
    unfold fX12_sum_73 at h
    refine lv_istore_n (lv' := [(1, .int s0), (0, .ref (ad 0))]) hx hb dX12_sum_73 rfl hl (by decide) rfl (fun ls hl => ?_)
    have hl := lv_sub hl [1, 0] (l' := [(0, .ref (ad 0)), (1, .int s0)]) rfl
    refine lv_goto (tgt := 5) hx hb dX12_sum_74 (by decide) ?_
    exact hk5 σ s0 H locs ls h hP hD hS hl
  have w44 : ∀ (k5 : S2 → Int32 → Option (Int32 × S2)) (hk5 : ∀ (σ : S2) (x1 : Int32) (H : Heap) (locs : List Loc) (ls : Array Slot), k5 σ x1 = some (r0, σ9) → va_P (dC, dI) vwCl (wG (cM cy ad) ad 40 σ) H → va_D A (wG (cM cy ad) ad 40 σ) → va_S A s.heap H locs → lv_has ls 4 [(0, .ref (ad 0)), (1, .int x1)] → W p l e (headSpec wsX12_sum ({ frames := 3 + (d + 1), cells := 0, slots := 0, locals := 64 + 23 * (d + 1) })).room s m (#[.ref (ad 0)]) below meth c H locs 0 0 (MQ below (va_Qi (fun (r : Int32) (_ : Unit) => r = r0) (fun (_ : Unit) t => wAt (dC, dI) A (wG (cM cy ad) ad 40 σ9) t) A) (#[.ref (ad 0)]) s 0 0 A) (F0 m 5 ls [])) , ∀ (σ : S2) (x1 : Int32) (s0 : Int32) (H : Heap) (locs : List Loc) (ls : Array Slot), fX12_sum_44 qX12_sum qX12_product qX12_one k5 σ x1 s0 = some (r0, σ9) → va_P (dC, dI) vwCl (wG (cM cy ad) ad 40 σ) H → va_D A (wG (cM cy ad) ad 40 σ) → va_S A s.heap H locs → lv_has ls 4 [(0, .ref (ad 0)), (1, .int x1)] → W p l e (headSpec wsX12_sum ({ frames := 3 + (d + 1), cells := 0, slots := 0, locals := 64 + 23 * (d + 1) })).room s m (#[.ref (ad 0)]) below meth c H locs 0 0 (MQ below (va_Qi (fun (r : Int32) (_ : Unit) => r = r0) (fun (_ : Unit) t => wAt (dC, dI) A (wG (cM cy ad) ad 40 σ9) t) A) (#[.ref (ad 0)]) s 0 0 A) (F0 m 44 ls [.int s0]) := by
    intro k5 hk5 σ x1 s0 H locs ls h hP hD hS hl
    unfold fX12_sum_44 at h
    refine lv_istore_n (lv' := [(2, .int s0), (0, .ref (ad 0)), (1, .int x1)]) hx hb dX12_sum_44 rfl hl (by decide) rfl (fun ls hl => ?_)
    have hl := lv_sub hl [1, 2, 0] (l' := [(0, .ref (ad 0)), (1, .int x1), (2, .int s0)]) rfl
    refine lv_aload_n hx hb dX12_sum_45 rfl (lv_at hl 0 rfl) ?_
    refine lv_dup hx hb dX12_sum_46 rfl ?_
    refine ux_get (D := (dC, dI)) (ci := 12) (v := .int (σ.1 0 45)) (C := RX12) (T := TX12) (M := 59) (fs := (oM ad (σ.1 0))) hx hb hts (fun _ h9 => List.mem_cons_of_mem _ (List.mem_append_right _ h9)) hown hK hP 0 (Nat.le_of_ble_eq_true rfl) rfl rfl 45 (by decide) (hts (.fieldLink RX12 177 "SeatsRoundModel" "at" "I") (List.mem_of_getElem? (i := 2) rfl)) (fun _ h9 => h9) rfl dX12_sum_47 ?_
    refine lv_iconst (v := 1) hx hb dX12_sum_50 (by decide) ?_
    refine lv_iadd hx hb dX12_sum_51 ?_
    refine ux_put (D := (dC, dI)) (ci := 12) (C := RX12) (T := TX12) (M := 59) (fs := (oM ad (σ.1 0))) hx hb hts (fun _ h9 => List.mem_cons_of_mem _ (List.mem_append_right _ h9)) tyX12 tyX12_ok nmX12 hown hK hP hD hS 0 (Nat.le_of_ble_eq_true rfl) rfl rfl 45 (by decide) (hts (.fieldLink RX12 177 "SeatsRoundModel" "at" "I") (List.mem_of_getElem? (i := 2) rfl)) (fun _ h9 => h9) rfl (tyX12_ok 45 (by decide)) rfl rfl (Nat.le_of_ble_eq_true rfl) (oM_set_45 _ _ _ _ _) h dX12_sum_52 (fun σ1 H locs h hP hD hS => ?_)
    refine lv_aload_n hx hb dX12_sum_55 rfl (lv_at hl 0 rfl) ?_
    obtain ⟨r2, σ3, hf4, h⟩ := bsS h
    refine ux_calli (va_runV (As := []) (rest := []) ⟨hx, hb, hml, hown, hts⟩ (hqX12_product σ1 H.size r2 σ3 hf4) (cwV 0 hts gX12_sum_X12_product rfl rfl rfl (by decide +kernel) ⟨by show (3 + d) + 1 ≤ 3 + (d + 1); omega, by show 8 + (4 + 11) + (64 + 23 * d) ≤ 64 + 23 * (d + 1); omega⟩) (wp_V hK hN hP hD (va_recv hK hP (ci := 12) (q0 := 0) rfl (wG_of (Nat.le_of_ble_eq_true rfl) rfl))) rfl rfl hl.1 rfl (lv_room (Nat.le_of_ble_eq_true rfl)) dX12_sum_56 ⟨Nat.le_of_ble_eq_true rfl, Nat.le_of_ble_eq_true rfl⟩) hD hS hA (fun H locs hP hD hS => ?_)
    refine lv_istore_n (lv' := [(3, .int r2), (0, .ref (ad 0)), (1, .int x1), (2, .int s0)]) hx hb dX12_sum_59 rfl hl (by decide) rfl (fun ls hl => ?_)
    have hl := lv_sub hl [1, 2, 3, 0] (l' := [(0, .ref (ad 0)), (1, .int x1), (2, .int s0), (3, .int r2)]) rfl
    refine lv_iload_n hx hb dX12_sum_60 rfl (lv_at hl 2 rfl) ?_
    refine lv_if_eq (tgt := 70) hx hb dX12_sum_61 (by decide) (fun hcd => ?_) (fun hcd => ?_)
    · have h := cdP hcd h
      refine lv_iload_n hx hb dX12_sum_70 rfl (lv_at hl 1 rfl) ?_
      refine lv_iload_n hx hb dX12_sum_71 rfl (lv_at hl 3 rfl) ?_
      refine lv_isub hx hb dX12_sum_72 ?_
      exact w73 _ hk5 σ3 (x1 - r2) H locs ls h hP hD hS (lv_sub hl [0] rfl)
    · have h := cdN hcd h
      refine lv_iload_n hx hb dX12_sum_64 rfl (lv_at hl 1 rfl) ?_
      refine lv_iload_n hx hb dX12_sum_65 rfl (lv_at hl 3 rfl) ?_
      refine lv_iadd hx hb dX12_sum_66 ?_
      refine lv_goto (tgt := 73) hx hb dX12_sum_67 (by decide) ?_
      exact w73 _ hk5 σ3 (x1 + r2) H locs ls h hP hD hS (lv_sub hl [0] rfl)
  have w30 : ∀ (k5 : S2 → Int32 → Option (Int32 × S2)) (hk5 : ∀ (σ : S2) (x1 : Int32) (H : Heap) (locs : List Loc) (ls : Array Slot), k5 σ x1 = some (r0, σ9) → va_P (dC, dI) vwCl (wG (cM cy ad) ad 40 σ) H → va_D A (wG (cM cy ad) ad 40 σ) → va_S A s.heap H locs → lv_has ls 4 [(0, .ref (ad 0)), (1, .int x1)] → W p l e (headSpec wsX12_sum ({ frames := 3 + (d + 1), cells := 0, slots := 0, locals := 64 + 23 * (d + 1) })).room s m (#[.ref (ad 0)]) below meth c H locs 0 0 (MQ below (va_Qi (fun (r : Int32) (_ : Unit) => r = r0) (fun (_ : Unit) t => wAt (dC, dI) A (wG (cM cy ad) ad 40 σ9) t) A) (#[.ref (ad 0)]) s 0 0 A) (F0 m 5 ls [])) , ∀ (σ : S2) (x1 : Int32) (H : Heap) (locs : List Loc) (ls : Array Slot), fX12_sum_30 qX12_sum qX12_product qX12_one k5 σ x1 = some (r0, σ9) → va_P (dC, dI) vwCl (wG (cM cy ad) ad 40 σ) H → va_D A (wG (cM cy ad) ad 40 σ) → va_S A s.heap H locs → lv_has ls 4 [(0, .ref (ad 0)), (1, .int x1)] → W p l e (headSpec wsX12_sum ({ frames := 3 + (d + 1), cells := 0, slots := 0, locals := 64 + 23 * (d + 1) })).room s m (#[.ref (ad 0)]) below meth c H locs 0 0 (MQ below (va_Qi (fun (r : Int32) (_ : Unit) => r = r0) (fun (_ : Unit) t => wAt (dC, dI) A (wG (cM cy ad) ad 40 σ9) t) A) (#[.ref (ad 0)]) s 0 0 A) (F0 m 30 ls []) := by
    intro k5 hk5 σ x1 H locs ls h hP hD hS hl
    unfold fX12_sum_30 at h
    refine lv_aload_n hx hb dX12_sum_30 rfl (lv_at hl 0 rfl) ?_
    obtain ⟨r5, hf6, h⟩ := biS h
    refine ux_calli (va_runV (As := []) (rest := []) ⟨hx, hb, hml, hown, hts⟩ (tX12_here l dC dI cy ad σ H.size r5 hf6) (cwV 0 hts gX12_sum_X12_here rfl rfl rfl (by decide +kernel) ⟨by show 1 + 1 ≤ 3 + (d + 1); omega, by show 8 + (1 + 11) + 23 ≤ 64 + 23 * (d + 1); omega⟩) (wp_V hK hN hP hD (va_recv hK hP (ci := 12) (q0 := 0) rfl (wG_of (Nat.le_of_ble_eq_true rfl) rfl))) rfl rfl hl.1 rfl (lv_room (Nat.le_of_ble_eq_true rfl)) dX12_sum_31 ⟨Nat.le_of_ble_eq_true rfl, Nat.le_of_ble_eq_true rfl⟩) hD hS hA (fun H locs hP hD hS => ?_)
    refine lv_bipush (v := 43) hx hb dX12_sum_34 (by decide) ?_
    refine lv_icmp_ne (tgt := 43) hx hb dX12_sum_36 (by decide) (fun hcd => ?_) (fun hcd => ?_)
    · have h := cdN hcd h
      refine lv_iconst (v := 0) hx hb dX12_sum_43 (by decide) ?_
      exact w44 _ hk5 σ x1 0 H locs ls h hP hD hS hl
    · have h := cdP hcd h
      refine lv_iconst (v := 1) hx hb dX12_sum_39 (by decide) ?_
      refine lv_goto (tgt := 44) hx hb dX12_sum_40 (by decide) ?_
      exact w44 _ hk5 σ x1 1 H locs ls h hP hD hS hl
  have w5 : ∀ (n : Nat), ∀ (σ : S2) (x1 : Int32) (H : Heap) (locs : List Loc) (ls : Array Slot), fX12_sum_5 qX12_sum qX12_product qX12_one n σ x1 = some (r0, σ9) → va_P (dC, dI) vwCl (wG (cM cy ad) ad 40 σ) H → va_D A (wG (cM cy ad) ad 40 σ) → va_S A s.heap H locs → lv_has ls 4 [(0, .ref (ad 0)), (1, .int x1)] → W p l e (headSpec wsX12_sum ({ frames := 3 + (d + 1), cells := 0, slots := 0, locals := 64 + 23 * (d + 1) })).room s m (#[.ref (ad 0)]) below meth c H locs 0 0 (MQ below (va_Qi (fun (r : Int32) (_ : Unit) => r = r0) (fun (_ : Unit) t => wAt (dC, dI) A (wG (cM cy ad) ad 40 σ9) t) A) (#[.ref (ad 0)]) s 0 0 A) (F0 m 5 ls []) := by
    intro n
    induction n with
    | zero => intro σ x1 H locs ls h; cases h
    | succ n ih =>
    intro σ x1 H locs ls h hP hD hS hl
    unfold fX12_sum_5 at h
    refine lv_aload_n hx hb dX12_sum_5 rfl (lv_at hl 0 rfl) ?_
    refine ux_get (D := (dC, dI)) (ci := 12) (v := .int (σ.1 0 47)) (C := RX12) (T := TX12) (M := 59) (fs := (oM ad (σ.1 0))) hx hb hts (fun _ h9 => List.mem_cons_of_mem _ (List.mem_append_right _ h9)) hown hK hP 0 (Nat.le_of_ble_eq_true rfl) rfl rfl 47 (by decide) (hts (.fieldLink RX12 183 "SeatsRoundModel" "isFaulty" "Z") (List.mem_of_getElem? (i := 1) rfl)) (fun _ h9 => h9) rfl dX12_sum_6 ?_
    refine lv_if_ne (tgt := 77) hx hb dX12_sum_9 (by decide) (fun hcd => ?_) (fun hcd => ?_)
    · have h := cdN hcd h
      refine lv_iload_n hx hb dX12_sum_77 rfl (lv_at hl 1 rfl) ?_
      exact ux_iret hx hb hr h hP hD hS hlocks dX12_sum_78
    · have h := cdP hcd h
      refine lv_aload_n hx hb dX12_sum_12 rfl (lv_at hl 0 rfl) ?_
      obtain ⟨r7, hf8, h⟩ := biS h
      refine ux_calli (va_runV (As := []) (rest := []) ⟨hx, hb, hml, hown, hts⟩ (tX12_here l dC dI cy ad σ H.size r7 hf8) (cwV 0 hts gX12_sum_X12_here rfl rfl rfl (by decide +kernel) ⟨by show 1 + 1 ≤ 3 + (d + 1); omega, by show 8 + (1 + 11) + 23 ≤ 64 + 23 * (d + 1); omega⟩) (wp_V hK hN hP hD (va_recv hK hP (ci := 12) (q0 := 0) rfl (wG_of (Nat.le_of_ble_eq_true rfl) rfl))) rfl rfl hl.1 rfl (lv_room (Nat.le_of_ble_eq_true rfl)) dX12_sum_13 ⟨Nat.le_of_ble_eq_true rfl, Nat.le_of_ble_eq_true rfl⟩) hD hS hA (fun H locs hP hD hS => ?_)
      refine lv_bipush (v := 43) hx hb dX12_sum_16 (by decide) ?_
      refine lv_icmp_eq (tgt := 30) hx hb dX12_sum_18 (by decide) (fun hcd => ?_) (fun hcd => ?_)
      · have h := cdP hcd h
        exact w30 _ ih σ x1 H locs ls h hP hD hS hl
      · have h := cdN hcd h
        refine lv_aload_n hx hb dX12_sum_21 rfl (lv_at hl 0 rfl) ?_
        obtain ⟨r9, hf10, h⟩ := biS h
        refine ux_calli (va_runV (As := []) (rest := []) ⟨hx, hb, hml, hown, hts⟩ (tX12_here l dC dI cy ad σ H.size r9 hf10) (cwV 0 hts gX12_sum_X12_here rfl rfl rfl (by decide +kernel) ⟨by show 1 + 1 ≤ 3 + (d + 1); omega, by show 8 + (1 + 11) + 23 ≤ 64 + 23 * (d + 1); omega⟩) (wp_V hK hN hP hD (va_recv hK hP (ci := 12) (q0 := 0) rfl (wG_of (Nat.le_of_ble_eq_true rfl) rfl))) rfl rfl hl.1 rfl (lv_room (Nat.le_of_ble_eq_true rfl)) dX12_sum_22 ⟨Nat.le_of_ble_eq_true rfl, Nat.le_of_ble_eq_true rfl⟩) hD hS hA (fun H locs hP hD hS => ?_)
        refine lv_bipush (v := 45) hx hb dX12_sum_25 (by decide) ?_
        refine lv_icmp_ne (tgt := 77) hx hb dX12_sum_27 (by decide) (fun hcd => ?_) (fun hcd => ?_)
        · have h := cdN hcd h
          refine lv_iload_n hx hb dX12_sum_77 rfl (lv_at hl 1 rfl) ?_
          exact ux_iret hx hb hr h hP hD hS hlocks dX12_sum_78
        · have h := cdP hcd h
          exact w30 _ ih σ x1 H locs ls h hP hD hS hl
  have w0 : ∀ (σ : S2)  (H : Heap) (locs : List Loc) (ls : Array Slot), fX12_sum_0 qX12_sum qX12_product qX12_one σ = some (r0, σ9) → va_P (dC, dI) vwCl (wG (cM cy ad) ad 40 σ) H → va_D A (wG (cM cy ad) ad 40 σ) → va_S A s.heap H locs → lv_has ls 4 [(0, .ref (ad 0))] → W p l e (headSpec wsX12_sum ({ frames := 3 + (d + 1), cells := 0, slots := 0, locals := 64 + 23 * (d + 1) })).room s m (#[.ref (ad 0)]) below meth c H locs 0 0 (MQ below (va_Qi (fun (r : Int32) (_ : Unit) => r = r0) (fun (_ : Unit) t => wAt (dC, dI) A (wG (cM cy ad) ad 40 σ9) t) A) (#[.ref (ad 0)]) s 0 0 A) (F0 m 0 ls []) := by
    intro σ H locs ls h hP hD hS hl
    unfold fX12_sum_0 at h
    refine lv_aload_n hx hb dX12_sum_0 rfl (lv_at hl 0 rfl) ?_
    obtain ⟨r11, σ12, hf13, h⟩ := bsS h
    refine ux_calli (va_runV (As := []) (rest := []) ⟨hx, hb, hml, hown, hts⟩ (hqX12_product σ H.size r11 σ12 hf13) (cwV 0 hts gX12_sum_X12_product rfl rfl rfl (by decide +kernel) ⟨by show (3 + d) + 1 ≤ 3 + (d + 1); omega, by show 8 + (4 + 11) + (64 + 23 * d) ≤ 64 + 23 * (d + 1); omega⟩) (wp_V hK hN hP hD (va_recv hK hP (ci := 12) (q0 := 0) rfl (wG_of (Nat.le_of_ble_eq_true rfl) rfl))) rfl rfl hl.1 rfl (lv_room (Nat.le_of_ble_eq_true rfl)) dX12_sum_1 ⟨Nat.le_of_ble_eq_true rfl, Nat.le_of_ble_eq_true rfl⟩) hD hS hA (fun H locs hP hD hS => ?_)
    refine lv_istore_n (lv' := [(1, .int r11), (0, .ref (ad 0))]) hx hb dX12_sum_4 rfl hl (by decide) rfl (fun ls hl => ?_)
    have hl := lv_sub hl [1, 0] (l' := [(0, .ref (ad 0)), (1, .int r11)]) rfl
    exact w5 FU σ12 r11 H locs ls h hP hD hS hl
  intro H locs ls h hP hD hS hl
  exact w0 σ H locs ls h hP hD hS (lv_sub hl [0] rfl)

set_option maxHeartbeats 4000000 in
set_option maxRecDepth 100000 in
theorem uX12_product (l : Launch) (dC : Nat → ClassId) (dI : Nat → Nat → Nat) (cy : Nat → ClassId) (ad : Nat → Nat) (d : Nat) (qX12_sum : S2 → Option (Int32 × S2)) (hqX12_sum : ∀ (σ : S2) (sz : Nat) (r0 : Int32) (σ9 : S2), qX12_sum σ = some (r0, σ9) → Met l yX12_sum wsX12_sum ({ frames := 3 + d, cells := 0, slots := 0, locals := 64 + 23 * d }) (va_Pc [.ref (ad 0)] (wPre (dC, dI) cy (wG (cM cy ad) ad 40 σ) sz)) (va_Qi (fun (r : Int32) (_ : Unit) => r = r0) (fun (_ : Unit) t => wAt (dC, dI) (va_A (wG (cM cy ad) ad 40 σ) sz) (wG (cM cy ad) ad 40 σ9) t) (va_A (wG (cM cy ad) ad 40 σ) sz)) 0 0 (va_A (wG (cM cy ad) ad 40 σ) sz)) (qX12_product : S2 → Option (Int32 × S2)) (hqX12_product : ∀ (σ : S2) (sz : Nat) (r0 : Int32) (σ9 : S2), qX12_product σ = some (r0, σ9) → Met l yX12_product wsX12_product ({ frames := 3 + d, cells := 0, slots := 0, locals := 64 + 23 * d }) (va_Pc [.ref (ad 0)] (wPre (dC, dI) cy (wG (cM cy ad) ad 40 σ) sz)) (va_Qi (fun (r : Int32) (_ : Unit) => r = r0) (fun (_ : Unit) t => wAt (dC, dI) (va_A (wG (cM cy ad) ad 40 σ) sz) (wG (cM cy ad) ad 40 σ9) t) (va_A (wG (cM cy ad) ad 40 σ) sz)) 0 0 (va_A (wG (cM cy ad) ad 40 σ) sz)) (qX12_one : S2 → Option (Int32 × S2)) (hqX12_one : ∀ (σ : S2) (sz : Nat) (r0 : Int32) (σ9 : S2), qX12_one σ = some (r0, σ9) → Met l yX12_one wsX12_one ({ frames := 3 + d, cells := 0, slots := 0, locals := 64 + 23 * d }) (va_Pc [.ref (ad 0)] (wPre (dC, dI) cy (wG (cM cy ad) ad 40 σ) sz)) (va_Qi (fun (r : Int32) (_ : Unit) => r = r0) (fun (_ : Unit) t => wAt (dC, dI) (va_A (wG (cM cy ad) ad 40 σ) sz) (wG (cM cy ad) ad 40 σ9) t) (va_A (wG (cM cy ad) ad 40 σ) sz)) 0 0 (va_A (wG (cM cy ad) ad 40 σ) sz)) (σ : S2)  (sz : Nat) (r0 : Int32) (σ9 : S2) (h : eX12_product qX12_sum qX12_product qX12_one σ = some (r0, σ9)) : Met l yX12_product wsX12_product ({ frames := 3 + (d + 1), cells := 0, slots := 0, locals := 64 + 23 * (d + 1) }) (va_Pc [.ref (ad 0)] (wPre (dC, dI) cy (wG (cM cy ad) ad 40 σ) sz)) (va_Qi (fun (r : Int32) (_ : Unit) => r = r0) (fun (_ : Unit) t => wAt (dC, dI) (va_A (wG (cM cy ad) ad 40 σ) sz) (wG (cM cy ad) ad 40 σ9) t) (va_A (wG (cM cy ad) ad 40 σ) sz)) 0 0 (va_A (wG (cM cy ad) ad 40 σ) sz) := by
  refine Met.ofW (cc := cX12_product) (maxL := 4) (ret := (some .int)) (by decide) rfl ?_
  intro p e s m args below meth c s₁ B hml hv
  obtain ⟨rfl, hsz, hP, hK, hD0, hN⟩ := hv
  have hx := B.exec
  have hb := B.bytes
  have hr := B.returns
  have hts := atoms_spec (ws := wsX12_product) B.pre
  have hown : s.vm.findClass RX12 = some m.cls := findClass_of_methodNamed B.named
  have hlocks := B.notSynchronized
  subst hsz
  have hD := hD0.self (sz := s.heap.size)
  generalize hAe : va_A (wG (cM cy ad) ad 40 σ) s.heap.size = A at hD ⊢
  have hA : ∀ q : Nat, s.heap.size ≤ q → A q := fun q h => by rw [← hAe]; exact Or.inr h
  have hS : va_S A s.heap s.heap [] := va_S.rf
  have hl := lv_entry ([.ref (ad 0)]) (n := 4) (Nat.le_of_ble_eq_true rfl)
  rw [lg_entry_eq]
  generalize (lg_sl ([.ref (ad 0)]) ++ List.replicate (4 - (lg_sl ([.ref (ad 0)])).length) Slot.unset).toArray = ls at hl ⊢
  have hl : lv_has ls 4 [(0, .ref (ad 0))] := hl
  unfold eX12_product at h
  clear hAe hD0
  suffices HH : ∀ (H : Heap) (locs : List Loc) (ls : Array Slot), fX12_product_0 qX12_sum qX12_product qX12_one σ = some (r0, σ9) → va_P (dC, dI) vwCl (wG (cM cy ad) ad 40 σ) H → va_D A (wG (cM cy ad) ad 40 σ) → va_S A s.heap H locs → lv_has ls 4 [(0, .ref (ad 0))] → W p l e (headSpec wsX12_product ({ frames := 3 + (d + 1), cells := 0, slots := 0, locals := 64 + 23 * (d + 1) })).room s m (#[.ref (ad 0)]) below meth c H locs 0 0 (MQ below (va_Qi (fun (r : Int32) (_ : Unit) => r = r0) (fun (_ : Unit) t => wAt (dC, dI) A (wG (cM cy ad) ad 40 σ9) t) A) (#[.ref (ad 0)]) s 0 0 A) (F0 m 0 ls []) from HH s.heap [] ls h hP hD hS hl
  have w114 : ∀ (k5 : S2 → Int32 → Option (Int32 × S2)) (hk5 : ∀ (σ : S2) (x1 : Int32) (H : Heap) (locs : List Loc) (ls : Array Slot), k5 σ x1 = some (r0, σ9) → va_P (dC, dI) vwCl (wG (cM cy ad) ad 40 σ) H → va_D A (wG (cM cy ad) ad 40 σ) → va_S A s.heap H locs → lv_has ls 4 [(0, .ref (ad 0)), (1, .int x1)] → W p l e (headSpec wsX12_product ({ frames := 3 + (d + 1), cells := 0, slots := 0, locals := 64 + 23 * (d + 1) })).room s m (#[.ref (ad 0)]) below meth c H locs 0 0 (MQ below (va_Qi (fun (r : Int32) (_ : Unit) => r = r0) (fun (_ : Unit) t => wAt (dC, dI) A (wG (cM cy ad) ad 40 σ9) t) A) (#[.ref (ad 0)]) s 0 0 A) (F0 m 5 ls [])) , ∀ (σ : S2) (s0 : Int32) (H : Heap) (locs : List Loc) (ls : Array Slot), fX12_product_114 qX12_sum qX12_product qX12_one k5 σ s0 = some (r0, σ9) → va_P (dC, dI) vwCl (wG (cM cy ad) ad 40 σ) H → va_D A (wG (cM cy ad) ad 40 σ) → va_S A s.heap H locs → lv_has ls 4 [(0, .ref (ad 0))] → W p l e (headSpec wsX12_product ({ frames := 3 + (d + 1), cells := 0, slots := 0, locals := 64 + 23 * (d + 1) })).room s m (#[.ref (ad 0)]) below meth c H locs 0 0 (MQ below (va_Qi (fun (r : Int32) (_ : Unit) => r = r0) (fun (_ : Unit) t => wAt (dC, dI) A (wG (cM cy ad) ad 40 σ9) t) A) (#[.ref (ad 0)]) s 0 0 A) (F0 m 114 ls [.int s0]) := by
    intro k5 hk5 σ s0 H locs ls h hP hD hS hl
    unfold fX12_product_114 at h
    refine lv_istore_n (lv' := [(1, .int s0), (0, .ref (ad 0))]) hx hb dX12_product_114 rfl hl (by decide) rfl (fun ls hl => ?_)
    have hl := lv_sub hl [1, 0] (l' := [(0, .ref (ad 0)), (1, .int s0)]) rfl
    refine lv_goto (tgt := 5) hx hb dX12_product_115 (by decide) ?_
    exact hk5 σ s0 H locs ls h hP hD hS hl
  have w39 : ∀ (k5 : S2 → Int32 → Option (Int32 × S2)) (hk5 : ∀ (σ : S2) (x1 : Int32) (H : Heap) (locs : List Loc) (ls : Array Slot), k5 σ x1 = some (r0, σ9) → va_P (dC, dI) vwCl (wG (cM cy ad) ad 40 σ) H → va_D A (wG (cM cy ad) ad 40 σ) → va_S A s.heap H locs → lv_has ls 4 [(0, .ref (ad 0)), (1, .int x1)] → W p l e (headSpec wsX12_product ({ frames := 3 + (d + 1), cells := 0, slots := 0, locals := 64 + 23 * (d + 1) })).room s m (#[.ref (ad 0)]) below meth c H locs 0 0 (MQ below (va_Qi (fun (r : Int32) (_ : Unit) => r = r0) (fun (_ : Unit) t => wAt (dC, dI) A (wG (cM cy ad) ad 40 σ9) t) A) (#[.ref (ad 0)]) s 0 0 A) (F0 m 5 ls [])) , ∀ (σ : S2) (x1 : Int32) (H : Heap) (locs : List Loc) (ls : Array Slot), fX12_product_39 qX12_sum qX12_product qX12_one k5 σ x1 = some (r0, σ9) → va_P (dC, dI) vwCl (wG (cM cy ad) ad 40 σ) H → va_D A (wG (cM cy ad) ad 40 σ) → va_S A s.heap H locs → lv_has ls 4 [(0, .ref (ad 0)), (1, .int x1)] → W p l e (headSpec wsX12_product ({ frames := 3 + (d + 1), cells := 0, slots := 0, locals := 64 + 23 * (d + 1) })).room s m (#[.ref (ad 0)]) below meth c H locs 0 0 (MQ below (va_Qi (fun (r : Int32) (_ : Unit) => r = r0) (fun (_ : Unit) t => wAt (dC, dI) A (wG (cM cy ad) ad 40 σ9) t) A) (#[.ref (ad 0)]) s 0 0 A) (F0 m 39 ls []) := by
    intro k5 hk5 σ x1 H locs ls h hP hD hS hl
    unfold fX12_product_39 at h
    refine lv_aload_n hx hb dX12_product_39 rfl (lv_at hl 0 rfl) ?_
    obtain ⟨r1, hf2, h⟩ := biS h
    refine ux_calli (va_runV (As := []) (rest := []) ⟨hx, hb, hml, hown, hts⟩ (tX12_here l dC dI cy ad σ H.size r1 hf2) (cwV 0 hts gX12_product_X12_here rfl rfl rfl (by decide +kernel) ⟨by show 1 + 1 ≤ 3 + (d + 1); omega, by show 8 + (1 + 11) + 23 ≤ 64 + 23 * (d + 1); omega⟩) (wp_V hK hN hP hD (va_recv hK hP (ci := 12) (q0 := 0) rfl (wG_of (Nat.le_of_ble_eq_true rfl) rfl))) rfl rfl hl.1 rfl (lv_room (Nat.le_of_ble_eq_true rfl)) dX12_product_40 ⟨Nat.le_of_ble_eq_true rfl, Nat.le_of_ble_eq_true rfl⟩) hD hS hA (fun H locs hP hD hS => ?_)
    refine lv_istore_n (lv' := [(2, .int r1), (0, .ref (ad 0)), (1, .int x1)]) hx hb dX12_product_43 rfl hl (by decide) rfl (fun ls hl => ?_)
    have hl := lv_sub hl [1, 2, 0] (l' := [(0, .ref (ad 0)), (1, .int x1), (2, .int r1)]) rfl
    refine lv_aload_n hx hb dX12_product_44 rfl (lv_at hl 0 rfl) ?_
    refine lv_dup hx hb dX12_product_45 rfl ?_
    refine ux_get (D := (dC, dI)) (ci := 12) (v := .int (σ.1 0 45)) (C := RX12) (T := TX12) (M := 59) (fs := (oM ad (σ.1 0))) hx hb hts (fun _ h9 => List.mem_cons_of_mem _ (List.mem_append_right _ h9)) hown hK hP 0 (Nat.le_of_ble_eq_true rfl) rfl rfl 45 (by decide) (hts (.fieldLink RX12 177 "SeatsRoundModel" "at" "I") (List.mem_of_getElem? (i := 2) rfl)) (fun _ h9 => h9) rfl dX12_product_46 ?_
    refine lv_iconst (v := 1) hx hb dX12_product_49 (by decide) ?_
    refine lv_iadd hx hb dX12_product_50 ?_
    refine ux_put (D := (dC, dI)) (ci := 12) (C := RX12) (T := TX12) (M := 59) (fs := (oM ad (σ.1 0))) hx hb hts (fun _ h9 => List.mem_cons_of_mem _ (List.mem_append_right _ h9)) tyX12 tyX12_ok nmX12 hown hK hP hD hS 0 (Nat.le_of_ble_eq_true rfl) rfl rfl 45 (by decide) (hts (.fieldLink RX12 177 "SeatsRoundModel" "at" "I") (List.mem_of_getElem? (i := 2) rfl)) (fun _ h9 => h9) rfl (tyX12_ok 45 (by decide)) rfl rfl (Nat.le_of_ble_eq_true rfl) (oM_set_45 _ _ _ _ _) h dX12_product_51 (fun σ3 H locs h hP hD hS => ?_)
    refine lv_aload_n hx hb dX12_product_54 rfl (lv_at hl 0 rfl) ?_
    obtain ⟨r4, σ5, hf6, h⟩ := bsS h
    refine ux_calli (va_runV (As := []) (rest := []) ⟨hx, hb, hml, hown, hts⟩ (hqX12_one σ3 H.size r4 σ5 hf6) (cwV 0 hts gX12_product_X12_one rfl rfl rfl (by decide +kernel) ⟨by show (3 + d) + 1 ≤ 3 + (d + 1); omega, by show 8 + (4 + 11) + (64 + 23 * d) ≤ 64 + 23 * (d + 1); omega⟩) (wp_V hK hN hP hD (va_recv hK hP (ci := 12) (q0 := 0) rfl (wG_of (Nat.le_of_ble_eq_true rfl) rfl))) rfl rfl hl.1 rfl (lv_room (Nat.le_of_ble_eq_true rfl)) dX12_product_55 ⟨Nat.le_of_ble_eq_true rfl, Nat.le_of_ble_eq_true rfl⟩) hD hS hA (fun H locs hP hD hS => ?_)
    refine lv_istore_n (lv' := [(3, .int r4), (0, .ref (ad 0)), (1, .int x1), (2, .int r1)]) hx hb dX12_product_58 rfl hl (by decide) rfl (fun ls hl => ?_)
    have hl := lv_sub hl [1, 2, 3, 0] (l' := [(0, .ref (ad 0)), (1, .int x1), (2, .int r1), (3, .int r4)]) rfl
    refine lv_iload_n hx hb dX12_product_59 rfl (lv_at hl 2 rfl) ?_
    refine lv_bipush (v := 42) hx hb dX12_product_60 (by decide) ?_
    refine lv_icmp_ne (tgt := 71) hx hb dX12_product_62 (by decide) (fun hcd => ?_) (fun hcd => ?_)
    · have h := cdN hcd h
      refine lv_iload_n hx hb dX12_product_71 rfl (lv_at hl 3 rfl) ?_
      refine lv_if_ne (tgt := 79) hx hb dX12_product_72 (by decide) (fun hcd => ?_) (fun hcd => ?_)
      · have h := cdN hcd h
        refine lv_iload_n hx hb dX12_product_79 rfl (lv_at hl 3 rfl) ?_
        refine lv_iconst (v := (-1)) hx hb dX12_product_80 (by decide) ?_
        refine lv_icmp_ne (tgt := 99) hx hb dX12_product_81 (by decide) (fun hcd => ?_) (fun hcd => ?_)
        · have h := cdN hcd h
          refine lv_iload_n hx hb dX12_product_99 rfl (lv_at hl 2 rfl) ?_
          refine lv_bipush (v := 47) hx hb dX12_product_100 (by decide) ?_
          refine lv_icmp_ne (tgt := 111) hx hb dX12_product_102 (by decide) (fun hcd => ?_) (fun hcd => ?_)
          · have h := cdN hcd h
            refine lv_iload_n hx hb dX12_product_111 rfl (lv_at hl 1 rfl) ?_
            refine lv_iload_n hx hb dX12_product_112 rfl (lv_at hl 3 rfl) ?_
            obtain ⟨hz7, h⟩ := dzS h
            refine lv_irem hx hb dX12_product_113 hz7 ?_
            exact w114 _ hk5 σ5 (x1 - x1 / r4 * r4) H locs ls h hP hD hS (lv_sub hl [0] rfl)
          · have h := cdP hcd h
            refine lv_iload_n hx hb dX12_product_105 rfl (lv_at hl 1 rfl) ?_
            refine lv_iload_n hx hb dX12_product_106 rfl (lv_at hl 3 rfl) ?_
            obtain ⟨hz8, h⟩ := dzS h
            refine lv_idiv hx hb dX12_product_107 hz8 ?_
            refine lv_goto (tgt := 114) hx hb dX12_product_108 (by decide) ?_
            exact w114 _ hk5 σ5 (x1 / r4) H locs ls h hP hD hS (lv_sub hl [0] rfl)
        · have h := cdP hcd h
          refine lv_iload_n hx hb dX12_product_84 rfl (lv_at hl 2 rfl) ?_
          refine lv_bipush (v := 47) hx hb dX12_product_85 (by decide) ?_
          refine lv_icmp_ne (tgt := 95) hx hb dX12_product_87 (by decide) (fun hcd => ?_) (fun hcd => ?_)
          · have h := cdN hcd h
            refine lv_iconst (v := 0) hx hb dX12_product_95 (by decide) ?_
            refine lv_goto (tgt := 114) hx hb dX12_product_96 (by decide) ?_
            exact w114 _ hk5 σ5 0 H locs ls h hP hD hS (lv_sub hl [0] rfl)
          · have h := cdP hcd h
            refine lv_iload_n hx hb dX12_product_90 rfl (lv_at hl 1 rfl) ?_
            refine lv_ineg hx hb dX12_product_91 ?_
            refine lv_goto (tgt := 114) hx hb dX12_product_92 (by decide) ?_
            exact w114 _ hk5 σ5 (-x1) H locs ls h hP hD hS (lv_sub hl [0] rfl)
      · have h := cdP hcd h
        refine lv_iconst (v := 0) hx hb dX12_product_75 (by decide) ?_
        refine lv_goto (tgt := 114) hx hb dX12_product_76 (by decide) ?_
        exact w114 _ hk5 σ5 0 H locs ls h hP hD hS (lv_sub hl [0] rfl)
    · have h := cdP hcd h
      refine lv_iload_n hx hb dX12_product_65 rfl (lv_at hl 1 rfl) ?_
      refine lv_iload_n hx hb dX12_product_66 rfl (lv_at hl 3 rfl) ?_
      refine lv_imul hx hb dX12_product_67 ?_
      refine lv_goto (tgt := 114) hx hb dX12_product_68 (by decide) ?_
      exact w114 _ hk5 σ5 (x1 * r4) H locs ls h hP hD hS (lv_sub hl [0] rfl)
  have w5 : ∀ (n : Nat), ∀ (σ : S2) (x1 : Int32) (H : Heap) (locs : List Loc) (ls : Array Slot), fX12_product_5 qX12_sum qX12_product qX12_one n σ x1 = some (r0, σ9) → va_P (dC, dI) vwCl (wG (cM cy ad) ad 40 σ) H → va_D A (wG (cM cy ad) ad 40 σ) → va_S A s.heap H locs → lv_has ls 4 [(0, .ref (ad 0)), (1, .int x1)] → W p l e (headSpec wsX12_product ({ frames := 3 + (d + 1), cells := 0, slots := 0, locals := 64 + 23 * (d + 1) })).room s m (#[.ref (ad 0)]) below meth c H locs 0 0 (MQ below (va_Qi (fun (r : Int32) (_ : Unit) => r = r0) (fun (_ : Unit) t => wAt (dC, dI) A (wG (cM cy ad) ad 40 σ9) t) A) (#[.ref (ad 0)]) s 0 0 A) (F0 m 5 ls []) := by
    intro n
    induction n with
    | zero => intro σ x1 H locs ls h; cases h
    | succ n ih =>
    intro σ x1 H locs ls h hP hD hS hl
    unfold fX12_product_5 at h
    refine lv_aload_n hx hb dX12_product_5 rfl (lv_at hl 0 rfl) ?_
    refine ux_get (D := (dC, dI)) (ci := 12) (v := .int (σ.1 0 47)) (C := RX12) (T := TX12) (M := 59) (fs := (oM ad (σ.1 0))) hx hb hts (fun _ h9 => List.mem_cons_of_mem _ (List.mem_append_right _ h9)) hown hK hP 0 (Nat.le_of_ble_eq_true rfl) rfl rfl 47 (by decide) (hts (.fieldLink RX12 183 "SeatsRoundModel" "isFaulty" "Z") (List.mem_of_getElem? (i := 1) rfl)) (fun _ h9 => h9) rfl dX12_product_6 ?_
    refine lv_if_ne (tgt := 118) hx hb dX12_product_9 (by decide) (fun hcd => ?_) (fun hcd => ?_)
    · have h := cdN hcd h
      refine lv_iload_n hx hb dX12_product_118 rfl (lv_at hl 1 rfl) ?_
      exact ux_iret hx hb hr h hP hD hS hlocks dX12_product_119
    · have h := cdP hcd h
      refine lv_aload_n hx hb dX12_product_12 rfl (lv_at hl 0 rfl) ?_
      obtain ⟨r9, hf10, h⟩ := biS h
      refine ux_calli (va_runV (As := []) (rest := []) ⟨hx, hb, hml, hown, hts⟩ (tX12_here l dC dI cy ad σ H.size r9 hf10) (cwV 0 hts gX12_product_X12_here rfl rfl rfl (by decide +kernel) ⟨by show 1 + 1 ≤ 3 + (d + 1); omega, by show 8 + (1 + 11) + 23 ≤ 64 + 23 * (d + 1); omega⟩) (wp_V hK hN hP hD (va_recv hK hP (ci := 12) (q0 := 0) rfl (wG_of (Nat.le_of_ble_eq_true rfl) rfl))) rfl rfl hl.1 rfl (lv_room (Nat.le_of_ble_eq_true rfl)) dX12_product_13 ⟨Nat.le_of_ble_eq_true rfl, Nat.le_of_ble_eq_true rfl⟩) hD hS hA (fun H locs hP hD hS => ?_)
      refine lv_bipush (v := 42) hx hb dX12_product_16 (by decide) ?_
      refine lv_icmp_eq (tgt := 39) hx hb dX12_product_18 (by decide) (fun hcd => ?_) (fun hcd => ?_)
      · have h := cdP hcd h
        exact w39 _ ih σ x1 H locs ls h hP hD hS hl
      · have h := cdN hcd h
        refine lv_aload_n hx hb dX12_product_21 rfl (lv_at hl 0 rfl) ?_
        obtain ⟨r11, hf12, h⟩ := biS h
        refine ux_calli (va_runV (As := []) (rest := []) ⟨hx, hb, hml, hown, hts⟩ (tX12_here l dC dI cy ad σ H.size r11 hf12) (cwV 0 hts gX12_product_X12_here rfl rfl rfl (by decide +kernel) ⟨by show 1 + 1 ≤ 3 + (d + 1); omega, by show 8 + (1 + 11) + 23 ≤ 64 + 23 * (d + 1); omega⟩) (wp_V hK hN hP hD (va_recv hK hP (ci := 12) (q0 := 0) rfl (wG_of (Nat.le_of_ble_eq_true rfl) rfl))) rfl rfl hl.1 rfl (lv_room (Nat.le_of_ble_eq_true rfl)) dX12_product_22 ⟨Nat.le_of_ble_eq_true rfl, Nat.le_of_ble_eq_true rfl⟩) hD hS hA (fun H locs hP hD hS => ?_)
        refine lv_bipush (v := 47) hx hb dX12_product_25 (by decide) ?_
        refine lv_icmp_eq (tgt := 39) hx hb dX12_product_27 (by decide) (fun hcd => ?_) (fun hcd => ?_)
        · have h := cdP hcd h
          exact w39 _ ih σ x1 H locs ls h hP hD hS hl
        · have h := cdN hcd h
          refine lv_aload_n hx hb dX12_product_30 rfl (lv_at hl 0 rfl) ?_
          obtain ⟨r13, hf14, h⟩ := biS h
          refine ux_calli (va_runV (As := []) (rest := []) ⟨hx, hb, hml, hown, hts⟩ (tX12_here l dC dI cy ad σ H.size r13 hf14) (cwV 0 hts gX12_product_X12_here rfl rfl rfl (by decide +kernel) ⟨by show 1 + 1 ≤ 3 + (d + 1); omega, by show 8 + (1 + 11) + 23 ≤ 64 + 23 * (d + 1); omega⟩) (wp_V hK hN hP hD (va_recv hK hP (ci := 12) (q0 := 0) rfl (wG_of (Nat.le_of_ble_eq_true rfl) rfl))) rfl rfl hl.1 rfl (lv_room (Nat.le_of_ble_eq_true rfl)) dX12_product_31 ⟨Nat.le_of_ble_eq_true rfl, Nat.le_of_ble_eq_true rfl⟩) hD hS hA (fun H locs hP hD hS => ?_)
          refine lv_bipush (v := 37) hx hb dX12_product_34 (by decide) ?_
          refine lv_icmp_ne (tgt := 118) hx hb dX12_product_36 (by decide) (fun hcd => ?_) (fun hcd => ?_)
          · have h := cdN hcd h
            refine lv_iload_n hx hb dX12_product_118 rfl (lv_at hl 1 rfl) ?_
            exact ux_iret hx hb hr h hP hD hS hlocks dX12_product_119
          · have h := cdP hcd h
            exact w39 _ ih σ x1 H locs ls h hP hD hS hl
  have w0 : ∀ (σ : S2)  (H : Heap) (locs : List Loc) (ls : Array Slot), fX12_product_0 qX12_sum qX12_product qX12_one σ = some (r0, σ9) → va_P (dC, dI) vwCl (wG (cM cy ad) ad 40 σ) H → va_D A (wG (cM cy ad) ad 40 σ) → va_S A s.heap H locs → lv_has ls 4 [(0, .ref (ad 0))] → W p l e (headSpec wsX12_product ({ frames := 3 + (d + 1), cells := 0, slots := 0, locals := 64 + 23 * (d + 1) })).room s m (#[.ref (ad 0)]) below meth c H locs 0 0 (MQ below (va_Qi (fun (r : Int32) (_ : Unit) => r = r0) (fun (_ : Unit) t => wAt (dC, dI) A (wG (cM cy ad) ad 40 σ9) t) A) (#[.ref (ad 0)]) s 0 0 A) (F0 m 0 ls []) := by
    intro σ H locs ls h hP hD hS hl
    unfold fX12_product_0 at h
    refine lv_aload_n hx hb dX12_product_0 rfl (lv_at hl 0 rfl) ?_
    obtain ⟨r15, σ16, hf17, h⟩ := bsS h
    refine ux_calli (va_runV (As := []) (rest := []) ⟨hx, hb, hml, hown, hts⟩ (hqX12_one σ H.size r15 σ16 hf17) (cwV 0 hts gX12_product_X12_one rfl rfl rfl (by decide +kernel) ⟨by show (3 + d) + 1 ≤ 3 + (d + 1); omega, by show 8 + (4 + 11) + (64 + 23 * d) ≤ 64 + 23 * (d + 1); omega⟩) (wp_V hK hN hP hD (va_recv hK hP (ci := 12) (q0 := 0) rfl (wG_of (Nat.le_of_ble_eq_true rfl) rfl))) rfl rfl hl.1 rfl (lv_room (Nat.le_of_ble_eq_true rfl)) dX12_product_1 ⟨Nat.le_of_ble_eq_true rfl, Nat.le_of_ble_eq_true rfl⟩) hD hS hA (fun H locs hP hD hS => ?_)
    refine lv_istore_n (lv' := [(1, .int r15), (0, .ref (ad 0))]) hx hb dX12_product_4 rfl hl (by decide) rfl (fun ls hl => ?_)
    have hl := lv_sub hl [1, 0] (l' := [(0, .ref (ad 0)), (1, .int r15)]) rfl
    exact w5 FU σ16 r15 H locs ls h hP hD hS hl
  intro H locs ls h hP hD hS hl
  exact w0 σ H locs ls h hP hD hS (lv_sub hl [0] rfl)

set_option maxHeartbeats 4000000 in
set_option maxRecDepth 100000 in
theorem uX12_one (l : Launch) (dC : Nat → ClassId) (dI : Nat → Nat → Nat) (cy : Nat → ClassId) (ad : Nat → Nat) (d : Nat) (qX12_sum : S2 → Option (Int32 × S2)) (hqX12_sum : ∀ (σ : S2) (sz : Nat) (r0 : Int32) (σ9 : S2), qX12_sum σ = some (r0, σ9) → Met l yX12_sum wsX12_sum ({ frames := 3 + d, cells := 0, slots := 0, locals := 64 + 23 * d }) (va_Pc [.ref (ad 0)] (wPre (dC, dI) cy (wG (cM cy ad) ad 40 σ) sz)) (va_Qi (fun (r : Int32) (_ : Unit) => r = r0) (fun (_ : Unit) t => wAt (dC, dI) (va_A (wG (cM cy ad) ad 40 σ) sz) (wG (cM cy ad) ad 40 σ9) t) (va_A (wG (cM cy ad) ad 40 σ) sz)) 0 0 (va_A (wG (cM cy ad) ad 40 σ) sz)) (qX12_product : S2 → Option (Int32 × S2)) (hqX12_product : ∀ (σ : S2) (sz : Nat) (r0 : Int32) (σ9 : S2), qX12_product σ = some (r0, σ9) → Met l yX12_product wsX12_product ({ frames := 3 + d, cells := 0, slots := 0, locals := 64 + 23 * d }) (va_Pc [.ref (ad 0)] (wPre (dC, dI) cy (wG (cM cy ad) ad 40 σ) sz)) (va_Qi (fun (r : Int32) (_ : Unit) => r = r0) (fun (_ : Unit) t => wAt (dC, dI) (va_A (wG (cM cy ad) ad 40 σ) sz) (wG (cM cy ad) ad 40 σ9) t) (va_A (wG (cM cy ad) ad 40 σ) sz)) 0 0 (va_A (wG (cM cy ad) ad 40 σ) sz)) (qX12_one : S2 → Option (Int32 × S2)) (hqX12_one : ∀ (σ : S2) (sz : Nat) (r0 : Int32) (σ9 : S2), qX12_one σ = some (r0, σ9) → Met l yX12_one wsX12_one ({ frames := 3 + d, cells := 0, slots := 0, locals := 64 + 23 * d }) (va_Pc [.ref (ad 0)] (wPre (dC, dI) cy (wG (cM cy ad) ad 40 σ) sz)) (va_Qi (fun (r : Int32) (_ : Unit) => r = r0) (fun (_ : Unit) t => wAt (dC, dI) (va_A (wG (cM cy ad) ad 40 σ) sz) (wG (cM cy ad) ad 40 σ9) t) (va_A (wG (cM cy ad) ad 40 σ) sz)) 0 0 (va_A (wG (cM cy ad) ad 40 σ) sz)) (σ : S2)  (sz : Nat) (r0 : Int32) (σ9 : S2) (h : eX12_one qX12_sum qX12_product qX12_one σ = some (r0, σ9)) : Met l yX12_one wsX12_one ({ frames := 3 + (d + 1), cells := 0, slots := 0, locals := 64 + 23 * (d + 1) }) (va_Pc [.ref (ad 0)] (wPre (dC, dI) cy (wG (cM cy ad) ad 40 σ) sz)) (va_Qi (fun (r : Int32) (_ : Unit) => r = r0) (fun (_ : Unit) t => wAt (dC, dI) (va_A (wG (cM cy ad) ad 40 σ) sz) (wG (cM cy ad) ad 40 σ9) t) (va_A (wG (cM cy ad) ad 40 σ) sz)) 0 0 (va_A (wG (cM cy ad) ad 40 σ) sz) := by
  refine Met.ofW (cc := cX12_one) (maxL := 4) (ret := (some .int)) (by decide) rfl ?_
  intro p e s m args below meth c s₁ B hml hv
  obtain ⟨rfl, hsz, hP, hK, hD0, hN⟩ := hv
  have hx := B.exec
  have hb := B.bytes
  have hr := B.returns
  have hts := atoms_spec (ws := wsX12_one) B.pre
  have hown : s.vm.findClass RX12 = some m.cls := findClass_of_methodNamed B.named
  have hlocks := B.notSynchronized
  subst hsz
  have hD := hD0.self (sz := s.heap.size)
  generalize hAe : va_A (wG (cM cy ad) ad 40 σ) s.heap.size = A at hD ⊢
  have hA : ∀ q : Nat, s.heap.size ≤ q → A q := fun q h => by rw [← hAe]; exact Or.inr h
  have hS : va_S A s.heap s.heap [] := va_S.rf
  have hl := lv_entry ([.ref (ad 0)]) (n := 4) (Nat.le_of_ble_eq_true rfl)
  rw [lg_entry_eq]
  generalize (lg_sl ([.ref (ad 0)]) ++ List.replicate (4 - (lg_sl ([.ref (ad 0)])).length) Slot.unset).toArray = ls at hl ⊢
  have hl : lv_has ls 4 [(0, .ref (ad 0))] := hl
  unfold eX12_one at h
  clear hAe hD0
  suffices HH : ∀ (H : Heap) (locs : List Loc) (ls : Array Slot), fX12_one_0 qX12_sum qX12_product qX12_one σ = some (r0, σ9) → va_P (dC, dI) vwCl (wG (cM cy ad) ad 40 σ) H → va_D A (wG (cM cy ad) ad 40 σ) → va_S A s.heap H locs → lv_has ls 4 [(0, .ref (ad 0))] → W p l e (headSpec wsX12_one ({ frames := 3 + (d + 1), cells := 0, slots := 0, locals := 64 + 23 * (d + 1) })).room s m (#[.ref (ad 0)]) below meth c H locs 0 0 (MQ below (va_Qi (fun (r : Int32) (_ : Unit) => r = r0) (fun (_ : Unit) t => wAt (dC, dI) A (wG (cM cy ad) ad 40 σ9) t) A) (#[.ref (ad 0)]) s 0 0 A) (F0 m 0 ls []) from HH s.heap [] ls h hP hD hS hl
  have w160 : ∀ (σ : S2) (x1 : Int32) (H : Heap) (locs : List Loc) (ls : Array Slot), fX12_one_160 qX12_sum qX12_product qX12_one σ x1 = some (r0, σ9) → va_P (dC, dI) vwCl (wG (cM cy ad) ad 40 σ) H → va_D A (wG (cM cy ad) ad 40 σ) → va_S A s.heap H locs → lv_has ls 4 [(0, .ref (ad 0)), (1, .int x1)] → W p l e (headSpec wsX12_one ({ frames := 3 + (d + 1), cells := 0, slots := 0, locals := 64 + 23 * (d + 1) })).room s m (#[.ref (ad 0)]) below meth c H locs 0 0 (MQ below (va_Qi (fun (r : Int32) (_ : Unit) => r = r0) (fun (_ : Unit) t => wAt (dC, dI) A (wG (cM cy ad) ad 40 σ9) t) A) (#[.ref (ad 0)]) s 0 0 A) (F0 m 160 ls []) := by
    intro σ x1 H locs ls h hP hD hS hl
    unfold fX12_one_160 at h
    refine lv_aload_n hx hb dX12_one_160 rfl (lv_at hl 0 rfl) ?_
    refine lv_dup hx hb dX12_one_161 rfl ?_
    refine ux_get (D := (dC, dI)) (ci := 12) (v := .int (σ.1 0 45)) (C := RX12) (T := TX12) (M := 59) (fs := (oM ad (σ.1 0))) hx hb hts (fun _ h9 => List.mem_cons_of_mem _ (List.mem_append_right _ h9)) hown hK hP 0 (Nat.le_of_ble_eq_true rfl) rfl rfl 45 (by decide) (hts (.fieldLink RX12 177 "SeatsRoundModel" "at" "I") (List.mem_of_getElem? (i := 2) rfl)) (fun _ h9 => h9) rfl dX12_one_162 ?_
    refine lv_iconst (v := 1) hx hb dX12_one_165 (by decide) ?_
    refine lv_iadd hx hb dX12_one_166 ?_
    refine ux_put (D := (dC, dI)) (ci := 12) (C := RX12) (T := TX12) (M := 59) (fs := (oM ad (σ.1 0))) hx hb hts (fun _ h9 => List.mem_cons_of_mem _ (List.mem_append_right _ h9)) tyX12 tyX12_ok nmX12 hown hK hP hD hS 0 (Nat.le_of_ble_eq_true rfl) rfl rfl 45 (by decide) (hts (.fieldLink RX12 177 "SeatsRoundModel" "at" "I") (List.mem_of_getElem? (i := 2) rfl)) (fun _ h9 => h9) rfl (tyX12_ok 45 (by decide)) rfl rfl (Nat.le_of_ble_eq_true rfl) (oM_set_45 _ _ _ _ _) h dX12_one_167 (fun σ1 H locs h hP hD hS => ?_)
    refine lv_iload_n hx hb dX12_one_170 rfl (lv_at hl 1 rfl) ?_
    refine lv_bipush (v := 110) hx hb dX12_one_171 (by decide) ?_
    refine lv_icmp_ne (tgt := 183) hx hb dX12_one_173 (by decide) (fun hcd => ?_) (fun hcd => ?_)
    · have h := cdN hcd h
      refine lv_iload_n hx hb dX12_one_183 rfl (lv_at hl 1 rfl) ?_
      refine lv_bipush (v := 117) hx hb dX12_one_184 (by decide) ?_
      refine lv_icmp_ne (tgt := 196) hx hb dX12_one_186 (by decide) (fun hcd => ?_) (fun hcd => ?_)
      · have h := cdN hcd h
        refine lv_iload_n hx hb dX12_one_196 rfl (lv_at hl 1 rfl) ?_
        refine lv_bipush (v := 116) hx hb dX12_one_197 (by decide) ?_
        refine lv_icmp_ne (tgt := 209) hx hb dX12_one_199 (by decide) (fun hcd => ?_) (fun hcd => ?_)
        · have h := cdN hcd h
          refine lv_aload_n hx hb dX12_one_209 rfl (lv_at hl 0 rfl) ?_
          refine ux_get (D := (dC, dI)) (ci := 12) (v := .int (σ1.1 0 51)) (C := RX12) (T := TX12) (M := 59) (fs := (oM ad (σ1.1 0))) hx hb hts (fun _ h9 => List.mem_cons_of_mem _ (List.mem_append_right _ h9)) hown hK hP 0 (Nat.le_of_ble_eq_true rfl) rfl rfl 51 (by decide) (hts (.fieldLink RX12 215 "SeatsRoundModel" "nowX" "I") (List.mem_of_getElem? (i := 7) rfl)) (fun _ h9 => h9) rfl dX12_one_210 ?_
          exact ux_iret hx hb hr h hP hD hS hlocks dX12_one_213
        · have h := cdP hcd h
          refine lv_aload_n hx hb dX12_one_202 rfl (lv_at hl 0 rfl) ?_
          refine ux_get (D := (dC, dI)) (ci := 12) (v := .int (σ1.1 0 50)) (C := RX12) (T := TX12) (M := 59) (fs := (oM ad (σ1.1 0))) hx hb hts (fun _ h9 => List.mem_cons_of_mem _ (List.mem_append_right _ h9)) hown hK hP 0 (Nat.le_of_ble_eq_true rfl) rfl rfl 50 (by decide) (hts (.fieldLink RX12 212 "SeatsRoundModel" "nowT" "I") (List.mem_of_getElem? (i := 6) rfl)) (fun _ h9 => h9) rfl dX12_one_203 ?_
          refine lv_goto (tgt := 213) hx hb dX12_one_206 (by decide) ?_
          exact ux_iret hx hb hr h hP hD hS hlocks dX12_one_213
      · have h := cdP hcd h
        refine lv_aload_n hx hb dX12_one_189 rfl (lv_at hl 0 rfl) ?_
        refine ux_get (D := (dC, dI)) (ci := 12) (v := .int (σ1.1 0 49)) (C := RX12) (T := TX12) (M := 59) (fs := (oM ad (σ1.1 0))) hx hb hts (fun _ h9 => List.mem_cons_of_mem _ (List.mem_append_right _ h9)) hown hK hP 0 (Nat.le_of_ble_eq_true rfl) rfl rfl 49 (by decide) (hts (.fieldLink RX12 209 "SeatsRoundModel" "nowU" "I") (List.mem_of_getElem? (i := 5) rfl)) (fun _ h9 => h9) rfl dX12_one_190 ?_
        refine lv_goto (tgt := 213) hx hb dX12_one_193 (by decide) ?_
        exact ux_iret hx hb hr h hP hD hS hlocks dX12_one_213
    · have h := cdP hcd h
      refine lv_aload_n hx hb dX12_one_176 rfl (lv_at hl 0 rfl) ?_
      refine ux_get (D := (dC, dI)) (ci := 12) (v := .int (σ1.1 0 48)) (C := RX12) (T := TX12) (M := 59) (fs := (oM ad (σ1.1 0))) hx hb hts (fun _ h9 => List.mem_cons_of_mem _ (List.mem_append_right _ h9)) hown hK hP 0 (Nat.le_of_ble_eq_true rfl) rfl rfl 48 (by decide) (hts (.fieldLink RX12 206 "SeatsRoundModel" "nowN" "I") (List.mem_of_getElem? (i := 4) rfl)) (fun _ h9 => h9) rfl dX12_one_177 ?_
      refine lv_goto (tgt := 213) hx hb dX12_one_180 (by decide) ?_
      exact ux_iret hx hb hr h hP hD hS hlocks dX12_one_213
  have w136 : ∀ (σ : S2) (x1 : Int32) (H : Heap) (locs : List Loc) (ls : Array Slot), fX12_one_136 qX12_sum qX12_product qX12_one σ x1 = some (r0, σ9) → va_P (dC, dI) vwCl (wG (cM cy ad) ad 40 σ) H → va_D A (wG (cM cy ad) ad 40 σ) → va_S A s.heap H locs → lv_has ls 4 [(0, .ref (ad 0)), (1, .int x1)] → W p l e (headSpec wsX12_one ({ frames := 3 + (d + 1), cells := 0, slots := 0, locals := 64 + 23 * (d + 1) })).room s m (#[.ref (ad 0)]) below meth c H locs 0 0 (MQ below (va_Qi (fun (r : Int32) (_ : Unit) => r = r0) (fun (_ : Unit) t => wAt (dC, dI) A (wG (cM cy ad) ad 40 σ9) t) A) (#[.ref (ad 0)]) s 0 0 A) (F0 m 136 ls []) := by
    intro σ x1 H locs ls h hP hD hS hl
    unfold fX12_one_136 at h
    refine lv_iload_n hx hb dX12_one_136 rfl (lv_at hl 1 rfl) ?_
    refine lv_bipush (v := 110) hx hb dX12_one_137 (by decide) ?_
    refine lv_icmp_eq (tgt := 160) hx hb dX12_one_139 (by decide) (fun hcd => ?_) (fun hcd => ?_)
    · have h := cdP hcd h
      exact w160 σ x1 H locs ls h hP hD hS hl
    · have h := cdN hcd h
      refine lv_iload_n hx hb dX12_one_142 rfl (lv_at hl 1 rfl) ?_
      refine lv_bipush (v := 117) hx hb dX12_one_143 (by decide) ?_
      refine lv_icmp_eq (tgt := 160) hx hb dX12_one_145 (by decide) (fun hcd => ?_) (fun hcd => ?_)
      · have h := cdP hcd h
        exact w160 σ x1 H locs ls h hP hD hS hl
      · have h := cdN hcd h
        refine lv_iload_n hx hb dX12_one_148 rfl (lv_at hl 1 rfl) ?_
        refine lv_bipush (v := 116) hx hb dX12_one_149 (by decide) ?_
        refine lv_icmp_eq (tgt := 160) hx hb dX12_one_151 (by decide) (fun hcd => ?_) (fun hcd => ?_)
        · have h := cdP hcd h
          exact w160 σ x1 H locs ls h hP hD hS hl
        · have h := cdN hcd h
          refine lv_iload_n hx hb dX12_one_154 rfl (lv_at hl 1 rfl) ?_
          refine lv_bipush (v := 120) hx hb dX12_one_155 (by decide) ?_
          refine lv_icmp_ne (tgt := 214) hx hb dX12_one_157 (by decide) (fun hcd => ?_) (fun hcd => ?_)
          · have h := cdN hcd h
            refine lv_aload_n hx hb dX12_one_214 rfl (lv_at hl 0 rfl) ?_
            refine lv_iconst (v := 1) hx hb dX12_one_215 (by decide) ?_
            refine ux_put (D := (dC, dI)) (ci := 12) (C := RX12) (T := TX12) (M := 59) (fs := (oM ad (σ.1 0))) hx hb hts (fun _ h9 => List.mem_cons_of_mem _ (List.mem_append_right _ h9)) tyX12 tyX12_ok nmX12 hown hK hP hD hS 0 (Nat.le_of_ble_eq_true rfl) rfl rfl 47 (by decide) (hts (.fieldLink RX12 183 "SeatsRoundModel" "isFaulty" "Z") (List.mem_of_getElem? (i := 1) rfl)) (fun _ h9 => h9) rfl (tyX12_ok 47 (by decide)) rfl rfl (Nat.le_of_ble_eq_true rfl) (oM_set_47 _ _ _ _ _) h dX12_one_216 (fun σ2 H locs h hP hD hS => ?_)
            refine lv_iconst (v := 0) hx hb dX12_one_219 (by decide) ?_
            exact ux_iret hx hb hr h hP hD hS hlocks dX12_one_220
          · have h := cdP hcd h
            exact w160 σ x1 H locs ls h hP hD hS hl
  have w29 : ∀ (n : Nat), ∀ (σ : S2) (x2 : Int32) (x3 : Int32) (H : Heap) (locs : List Loc) (ls : Array Slot), fX12_one_29 qX12_sum qX12_product qX12_one n σ x2 x3 = some (r0, σ9) → va_P (dC, dI) vwCl (wG (cM cy ad) ad 40 σ) H → va_D A (wG (cM cy ad) ad 40 σ) → va_S A s.heap H locs → lv_has ls 4 [(0, .ref (ad 0)), (2, .int x2), (3, .int x3)] → W p l e (headSpec wsX12_one ({ frames := 3 + (d + 1), cells := 0, slots := 0, locals := 64 + 23 * (d + 1) })).room s m (#[.ref (ad 0)]) below meth c H locs 0 0 (MQ below (va_Qi (fun (r : Int32) (_ : Unit) => r = r0) (fun (_ : Unit) t => wAt (dC, dI) A (wG (cM cy ad) ad 40 σ9) t) A) (#[.ref (ad 0)]) s 0 0 A) (F0 m 29 ls []) := by
    intro n
    induction n with
    | zero => intro σ x2 x3 H locs ls h; cases h
    | succ n ih =>
    intro σ x2 x3 H locs ls h hP hD hS hl
    unfold fX12_one_29 at h
    refine lv_iload_n hx hb dX12_one_29 rfl (lv_at hl 2 rfl) ?_
    refine lv_iconst (v := 3) hx hb dX12_one_30 (by decide) ?_
    refine lv_icmp_ge (tgt := 77) hx hb dX12_one_31 (by decide) (fun hcd => ?_) (fun hcd => ?_)
    · have h := cdP hcd h
      refine lv_iload_n hx hb dX12_one_77 rfl (lv_at hl 1 rfl) ?_
      exact ux_iret hx hb hr h hP hD hS hlocks dX12_one_78
    · have h := cdN hcd h
      refine lv_aload_n hx hb dX12_one_34 rfl (lv_at hl 0 rfl) ?_
      obtain ⟨r3, hf4, h⟩ := biS h
      refine ux_calli (va_runV (As := []) (rest := []) ⟨hx, hb, hml, hown, hts⟩ (tX12_here l dC dI cy ad σ H.size r3 hf4) (cwV 0 hts gX12_one_X12_here rfl rfl rfl (by decide +kernel) ⟨by show 1 + 1 ≤ 3 + (d + 1); omega, by show 8 + (1 + 11) + 23 ≤ 64 + 23 * (d + 1); omega⟩) (wp_V hK hN hP hD (va_recv hK hP (ci := 12) (q0 := 0) rfl (wG_of (Nat.le_of_ble_eq_true rfl) rfl))) rfl rfl hl.1 rfl (lv_room (Nat.le_of_ble_eq_true rfl)) dX12_one_35 ⟨Nat.le_of_ble_eq_true rfl, Nat.le_of_ble_eq_true rfl⟩) hD hS hA (fun H locs hP hD hS => ?_)
      refine lv_bipush (v := 48) hx hb dX12_one_38 (by decide) ?_
      refine lv_bipush (v := 57) hx hb dX12_one_40 (by decide) ?_
      obtain ⟨r5, hf6, h⟩ := biS h
      refine ux_calli (va_runS (As := [.int r3, .int 48, .int 57]) (rest := []) ⟨hx, hb, hml, hown, hts⟩ (tX12_in l dC dI cy ad σ r3 48 57 H.size r5 hf6) (va_cwS 3 hts gX12_one_X12_in rfl rfl rfl (by decide +kernel) ⟨by show 1 + 1 ≤ 3 + (d + 1); omega, by show 8 + (3 + 11) + 23 ≤ 64 + 23 * (d + 1); omega⟩) (wp_S hK hN hP hD) rfl rfl hl.1 rfl (lv_room (Nat.le_of_ble_eq_true rfl)) dX12_one_42 ⟨Nat.le_of_ble_eq_true rfl, Nat.le_of_ble_eq_true rfl⟩) hD hS hA (fun H locs hP hD hS => ?_)
      refine lv_if_eq (tgt := 77) hx hb dX12_one_45 (by decide) (fun hcd => ?_) (fun hcd => ?_)
      · have h := cdP hcd h
        refine lv_iload_n hx hb dX12_one_77 rfl (lv_at hl 1 rfl) ?_
        exact ux_iret hx hb hr h hP hD hS hlocks dX12_one_78
      · have h := cdN hcd h
        refine lv_bipush (v := 10) hx hb dX12_one_48 (by decide) ?_
        refine lv_iload_n hx hb dX12_one_50 rfl (lv_at hl 1 rfl) ?_
        refine lv_imul hx hb dX12_one_51 ?_
        refine lv_aload_n hx hb dX12_one_52 rfl (lv_at hl 0 rfl) ?_
        obtain ⟨r7, hf8, h⟩ := biS h
        refine ux_calli (va_runV (As := []) (rest := [.int (10 * x2)]) ⟨hx, hb, hml, hown, hts⟩ (tX12_here l dC dI cy ad σ H.size r7 hf8) (cwV 0 hts gX12_one_X12_here rfl rfl rfl (by decide +kernel) ⟨by show 1 + 1 ≤ 3 + (d + 1); omega, by show 8 + (1 + 11) + 23 ≤ 64 + 23 * (d + 1); omega⟩) (wp_V hK hN hP hD (va_recv hK hP (ci := 12) (q0 := 0) rfl (wG_of (Nat.le_of_ble_eq_true rfl) rfl))) rfl rfl hl.1 rfl (lv_room (Nat.le_of_ble_eq_true rfl)) dX12_one_53 ⟨Nat.le_of_ble_eq_true rfl, Nat.le_of_ble_eq_true rfl⟩) hD hS hA (fun H locs hP hD hS => ?_)
        refine lv_iadd hx hb dX12_one_56 ?_
        refine lv_bipush (v := 48) hx hb dX12_one_57 (by decide) ?_
        refine lv_isub hx hb dX12_one_59 ?_
        refine lv_topi (fun v9 ev9 => ?_)
        have h := nmS h ev9
        refine lv_istore_n (lv' := [(2, .int v9), (0, .ref (ad 0)), (3, .int x3)]) hx hb dX12_one_60 rfl hl (by decide) rfl (fun ls hl => ?_)
        have hl := lv_sub hl [1, 0, 2] (l' := [(0, .ref (ad 0)), (2, .int v9), (3, .int x3)]) rfl
        refine lv_aload_n hx hb dX12_one_61 rfl (lv_at hl 0 rfl) ?_
        refine lv_dup hx hb dX12_one_62 rfl ?_
        refine ux_get (D := (dC, dI)) (ci := 12) (v := .int (σ.1 0 45)) (C := RX12) (T := TX12) (M := 59) (fs := (oM ad (σ.1 0))) hx hb hts (fun _ h9 => List.mem_cons_of_mem _ (List.mem_append_right _ h9)) hown hK hP 0 (Nat.le_of_ble_eq_true rfl) rfl rfl 45 (by decide) (hts (.fieldLink RX12 177 "SeatsRoundModel" "at" "I") (List.mem_of_getElem? (i := 2) rfl)) (fun _ h9 => h9) rfl dX12_one_63 ?_
        refine lv_iconst (v := 1) hx hb dX12_one_66 (by decide) ?_
        refine lv_iadd hx hb dX12_one_67 ?_
        refine ux_put (D := (dC, dI)) (ci := 12) (C := RX12) (T := TX12) (M := 59) (fs := (oM ad (σ.1 0))) hx hb hts (fun _ h9 => List.mem_cons_of_mem _ (List.mem_append_right _ h9)) tyX12 tyX12_ok nmX12 hown hK hP hD hS 0 (Nat.le_of_ble_eq_true rfl) rfl rfl 45 (by decide) (hts (.fieldLink RX12 177 "SeatsRoundModel" "at" "I") (List.mem_of_getElem? (i := 2) rfl)) (fun _ h9 => h9) rfl (tyX12_ok 45 (by decide)) rfl rfl (Nat.le_of_ble_eq_true rfl) (oM_set_45 _ _ _ _ _) h dX12_one_68 (fun σ10 H locs h hP hD hS => ?_)
        obtain ⟨v11, ev11⟩ : ∃ y : Int32, y = x3 + 1 := ⟨_, rfl⟩
        have h := nmS h ev11
        refine lv_iinc (v := v11) (lv' := [(3, .int v11), (0, .ref (ad 0)), (2, .int v9)]) hx hb dX12_one_71 hl (k := 2) rfl (by rw [ev11]; rfl) (by decide) rfl (fun ls hl => ?_)
        have hl := lv_sub hl [1, 2, 0] (l' := [(0, .ref (ad 0)), (2, .int v9), (3, .int v11)]) rfl
        refine lv_goto (tgt := 29) hx hb dX12_one_74 (by decide) ?_
        exact ih σ10 v9 v11 H locs ls h hP hD hS hl
  have w0 : ∀ (σ : S2)  (H : Heap) (locs : List Loc) (ls : Array Slot), fX12_one_0 qX12_sum qX12_product qX12_one σ = some (r0, σ9) → va_P (dC, dI) vwCl (wG (cM cy ad) ad 40 σ) H → va_D A (wG (cM cy ad) ad 40 σ) → va_S A s.heap H locs → lv_has ls 4 [(0, .ref (ad 0))] → W p l e (headSpec wsX12_one ({ frames := 3 + (d + 1), cells := 0, slots := 0, locals := 64 + 23 * (d + 1) })).room s m (#[.ref (ad 0)]) below meth c H locs 0 0 (MQ below (va_Qi (fun (r : Int32) (_ : Unit) => r = r0) (fun (_ : Unit) t => wAt (dC, dI) A (wG (cM cy ad) ad 40 σ9) t) A) (#[.ref (ad 0)]) s 0 0 A) (F0 m 0 ls []) := by
    intro σ H locs ls h hP hD hS hl
    unfold fX12_one_0 at h
    refine lv_aload_n hx hb dX12_one_0 rfl (lv_at hl 0 rfl) ?_
    obtain ⟨r12, hf13, h⟩ := biS h
    refine ux_calli (va_runV (As := []) (rest := []) ⟨hx, hb, hml, hown, hts⟩ (tX12_here l dC dI cy ad σ H.size r12 hf13) (cwV 0 hts gX12_one_X12_here rfl rfl rfl (by decide +kernel) ⟨by show 1 + 1 ≤ 3 + (d + 1); omega, by show 8 + (1 + 11) + 23 ≤ 64 + 23 * (d + 1); omega⟩) (wp_V hK hN hP hD (va_recv hK hP (ci := 12) (q0 := 0) rfl (wG_of (Nat.le_of_ble_eq_true rfl) rfl))) rfl rfl hl.1 rfl (lv_room (Nat.le_of_ble_eq_true rfl)) dX12_one_1 ⟨Nat.le_of_ble_eq_true rfl, Nat.le_of_ble_eq_true rfl⟩) hD hS hA (fun H locs hP hD hS => ?_)
    refine lv_istore_n (lv' := [(1, .int r12), (0, .ref (ad 0))]) hx hb dX12_one_4 rfl hl (by decide) rfl (fun ls hl => ?_)
    have hl := lv_sub hl [1, 0] (l' := [(0, .ref (ad 0)), (1, .int r12)]) rfl
    refine lv_aload_n hx hb dX12_one_5 rfl (lv_at hl 0 rfl) ?_
    refine ux_get (D := (dC, dI)) (ci := 12) (v := .int (σ.1 0 47)) (C := RX12) (T := TX12) (M := 59) (fs := (oM ad (σ.1 0))) hx hb hts (fun _ h9 => List.mem_cons_of_mem _ (List.mem_append_right _ h9)) hown hK hP 0 (Nat.le_of_ble_eq_true rfl) rfl rfl 47 (by decide) (hts (.fieldLink RX12 183 "SeatsRoundModel" "isFaulty" "Z") (List.mem_of_getElem? (i := 1) rfl)) (fun _ h9 => h9) rfl dX12_one_6 ?_
    refine lv_if_eq (tgt := 14) hx hb dX12_one_9 (by decide) (fun hcd => ?_) (fun hcd => ?_)
    · have h := cdP hcd h
      refine lv_iload_n hx hb dX12_one_14 rfl (lv_at hl 1 rfl) ?_
      refine lv_bipush (v := 48) hx hb dX12_one_15 (by decide) ?_
      refine lv_bipush (v := 57) hx hb dX12_one_17 (by decide) ?_
      obtain ⟨r14, hf15, h⟩ := biS h
      refine ux_calli (va_runS (As := [.int r12, .int 48, .int 57]) (rest := []) ⟨hx, hb, hml, hown, hts⟩ (tX12_in l dC dI cy ad σ r12 48 57 H.size r14 hf15) (va_cwS 3 hts gX12_one_X12_in rfl rfl rfl (by decide +kernel) ⟨by show 1 + 1 ≤ 3 + (d + 1); omega, by show 8 + (3 + 11) + 23 ≤ 64 + 23 * (d + 1); omega⟩) (wp_S hK hN hP hD) rfl rfl hl.1 rfl (lv_room (Nat.le_of_ble_eq_true rfl)) dX12_one_19 ⟨Nat.le_of_ble_eq_true rfl, Nat.le_of_ble_eq_true rfl⟩) hD hS hA (fun H locs hP hD hS => ?_)
      refine lv_if_eq (tgt := 79) hx hb dX12_one_22 (by decide) (fun hcd => ?_) (fun hcd => ?_)
      · have h := cdP hcd h
        refine lv_iload_n hx hb dX12_one_79 rfl (lv_at hl 1 rfl) ?_
        refine lv_bipush (v := 40) hx hb dX12_one_80 (by decide) ?_
        refine lv_icmp_ne (tgt := 136) hx hb dX12_one_82 (by decide) (fun hcd => ?_) (fun hcd => ?_)
        · have h := cdN hcd h
          exact w136 σ r12 H locs ls h hP hD hS hl
        · have h := cdP hcd h
          refine lv_aload_n hx hb dX12_one_85 rfl (lv_at hl 0 rfl) ?_
          refine ux_get (D := (dC, dI)) (ci := 12) (v := .int (σ.1 0 46)) (C := RX12) (T := TX12) (M := 59) (fs := (oM ad (σ.1 0))) hx hb hts (fun _ h9 => List.mem_cons_of_mem _ (List.mem_append_right _ h9)) hown hK hP 0 (Nat.le_of_ble_eq_true rfl) rfl rfl 46 (by decide) (hts (.fieldLink RX12 197 "SeatsRoundModel" "opens" "I") (List.mem_of_getElem? (i := 3) rfl)) (fun _ h9 => h9) rfl dX12_one_86 ?_
          refine lv_iconst (v := 4) hx hb dX12_one_89 (by decide) ?_
          refine lv_icmp_ge (tgt := 136) hx hb dX12_one_90 (by decide) (fun hcd => ?_) (fun hcd => ?_)
          · have h := cdP hcd h
            exact w136 σ r12 H locs ls h hP hD hS hl
          · have h := cdN hcd h
            refine lv_aload_n hx hb dX12_one_93 rfl (lv_at hl 0 rfl) ?_
            refine lv_dup hx hb dX12_one_94 rfl ?_
            refine ux_get (D := (dC, dI)) (ci := 12) (v := .int (σ.1 0 46)) (C := RX12) (T := TX12) (M := 59) (fs := (oM ad (σ.1 0))) hx hb hts (fun _ h9 => List.mem_cons_of_mem _ (List.mem_append_right _ h9)) hown hK hP 0 (Nat.le_of_ble_eq_true rfl) rfl rfl 46 (by decide) (hts (.fieldLink RX12 197 "SeatsRoundModel" "opens" "I") (List.mem_of_getElem? (i := 3) rfl)) (fun _ h9 => h9) rfl dX12_one_95 ?_
            refine lv_iconst (v := 1) hx hb dX12_one_98 (by decide) ?_
            refine lv_iadd hx hb dX12_one_99 ?_
            refine ux_put (D := (dC, dI)) (ci := 12) (C := RX12) (T := TX12) (M := 59) (fs := (oM ad (σ.1 0))) hx hb hts (fun _ h9 => List.mem_cons_of_mem _ (List.mem_append_right _ h9)) tyX12 tyX12_ok nmX12 hown hK hP hD hS 0 (Nat.le_of_ble_eq_true rfl) rfl rfl 46 (by decide) (hts (.fieldLink RX12 197 "SeatsRoundModel" "opens" "I") (List.mem_of_getElem? (i := 3) rfl)) (fun _ h9 => h9) rfl (tyX12_ok 46 (by decide)) rfl rfl (Nat.le_of_ble_eq_true rfl) (oM_set_46 _ _ _ _ _) h dX12_one_100 (fun σ16 H locs h hP hD hS => ?_)
            refine lv_aload_n hx hb dX12_one_103 rfl (lv_at hl 0 rfl) ?_
            refine lv_dup hx hb dX12_one_104 rfl ?_
            refine ux_get (D := (dC, dI)) (ci := 12) (v := .int (σ16.1 0 45)) (C := RX12) (T := TX12) (M := 59) (fs := (oM ad (σ16.1 0))) hx hb hts (fun _ h9 => List.mem_cons_of_mem _ (List.mem_append_right _ h9)) hown hK hP 0 (Nat.le_of_ble_eq_true rfl) rfl rfl 45 (by decide) (hts (.fieldLink RX12 177 "SeatsRoundModel" "at" "I") (List.mem_of_getElem? (i := 2) rfl)) (fun _ h9 => h9) rfl dX12_one_105 ?_
            refine lv_iconst (v := 1) hx hb dX12_one_108 (by decide) ?_
            refine lv_iadd hx hb dX12_one_109 ?_
            refine ux_put (D := (dC, dI)) (ci := 12) (C := RX12) (T := TX12) (M := 59) (fs := (oM ad (σ16.1 0))) hx hb hts (fun _ h9 => List.mem_cons_of_mem _ (List.mem_append_right _ h9)) tyX12 tyX12_ok nmX12 hown hK hP hD hS 0 (Nat.le_of_ble_eq_true rfl) rfl rfl 45 (by decide) (hts (.fieldLink RX12 177 "SeatsRoundModel" "at" "I") (List.mem_of_getElem? (i := 2) rfl)) (fun _ h9 => h9) rfl (tyX12_ok 45 (by decide)) rfl rfl (Nat.le_of_ble_eq_true rfl) (oM_set_45 _ _ _ _ _) h dX12_one_110 (fun σ17 H locs h hP hD hS => ?_)
            refine lv_aload_n hx hb dX12_one_113 rfl (lv_at hl 0 rfl) ?_
            obtain ⟨r18, σ19, hf20, h⟩ := bsS h
            refine ux_calli (va_runV (As := []) (rest := []) ⟨hx, hb, hml, hown, hts⟩ (hqX12_sum σ17 H.size r18 σ19 hf20) (cwV 0 hts gX12_one_X12_sum rfl rfl rfl (by decide +kernel) ⟨by show (3 + d) + 1 ≤ 3 + (d + 1); omega, by show 8 + (4 + 11) + (64 + 23 * d) ≤ 64 + 23 * (d + 1); omega⟩) (wp_V hK hN hP hD (va_recv hK hP (ci := 12) (q0 := 0) rfl (wG_of (Nat.le_of_ble_eq_true rfl) rfl))) rfl rfl hl.1 rfl (lv_room (Nat.le_of_ble_eq_true rfl)) dX12_one_114 ⟨Nat.le_of_ble_eq_true rfl, Nat.le_of_ble_eq_true rfl⟩) hD hS hA (fun H locs hP hD hS => ?_)
            refine lv_istore_n (lv' := [(2, .int r18), (0, .ref (ad 0)), (1, .int r12)]) hx hb dX12_one_117 rfl hl (by decide) rfl (fun ls hl => ?_)
            have hl := lv_sub hl [1, 2, 0] (l' := [(0, .ref (ad 0)), (1, .int r12), (2, .int r18)]) rfl
            refine lv_aload_n hx hb dX12_one_118 rfl (lv_at hl 0 rfl) ?_
            refine lv_bipush (v := 41) hx hb dX12_one_119 (by decide) ?_
            obtain ⟨r21, σ22, hf23, h⟩ := bsS h
            refine ux_callv (va_runV (As := [.int 41]) (rest := []) ⟨hx, hb, hml, hown, hts⟩ (tX12_eats l dC dI cy ad σ19 41 H.size r21 σ22 hf23) (cwV 1 hts gX12_one_X12_eats rfl rfl rfl (by decide +kernel) ⟨by show 2 + 1 ≤ 3 + (d + 1); omega, by show 8 + (2 + 11) + 43 ≤ 64 + 23 * (d + 1); omega⟩) (wp_V hK hN hP hD (va_recv hK hP (ci := 12) (q0 := 0) rfl (wG_of (Nat.le_of_ble_eq_true rfl) rfl))) rfl rfl hl.1 rfl (lv_room (Nat.le_of_ble_eq_true rfl)) dX12_one_121 ⟨Nat.le_of_ble_eq_true rfl, Nat.le_of_ble_eq_true rfl⟩) hD hS hA (fun H locs hP hD hS => ?_)
            refine lv_aload_n hx hb dX12_one_124 rfl (lv_at hl 0 rfl) ?_
            refine lv_dup hx hb dX12_one_125 rfl ?_
            refine ux_get (D := (dC, dI)) (ci := 12) (v := .int (σ22.1 0 46)) (C := RX12) (T := TX12) (M := 59) (fs := (oM ad (σ22.1 0))) hx hb hts (fun _ h9 => List.mem_cons_of_mem _ (List.mem_append_right _ h9)) hown hK hP 0 (Nat.le_of_ble_eq_true rfl) rfl rfl 46 (by decide) (hts (.fieldLink RX12 197 "SeatsRoundModel" "opens" "I") (List.mem_of_getElem? (i := 3) rfl)) (fun _ h9 => h9) rfl dX12_one_126 ?_
            refine lv_iconst (v := 1) hx hb dX12_one_129 (by decide) ?_
            refine lv_isub hx hb dX12_one_130 ?_
            refine ux_put (D := (dC, dI)) (ci := 12) (C := RX12) (T := TX12) (M := 59) (fs := (oM ad (σ22.1 0))) hx hb hts (fun _ h9 => List.mem_cons_of_mem _ (List.mem_append_right _ h9)) tyX12 tyX12_ok nmX12 hown hK hP hD hS 0 (Nat.le_of_ble_eq_true rfl) rfl rfl 46 (by decide) (hts (.fieldLink RX12 197 "SeatsRoundModel" "opens" "I") (List.mem_of_getElem? (i := 3) rfl)) (fun _ h9 => h9) rfl (tyX12_ok 46 (by decide)) rfl rfl (Nat.le_of_ble_eq_true rfl) (oM_set_46 _ _ _ _ _) h dX12_one_131 (fun σ24 H locs h hP hD hS => ?_)
            refine lv_iload_n hx hb dX12_one_134 rfl (lv_at hl 2 rfl) ?_
            exact ux_iret hx hb hr h hP hD hS hlocks dX12_one_135
      · have h := cdN hcd h
        refine lv_iconst (v := 0) hx hb dX12_one_25 (by decide) ?_
        refine lv_istore_n (lv' := [(2, .int 0), (0, .ref (ad 0)), (1, .int r12)]) hx hb dX12_one_26 rfl hl (by decide) rfl (fun ls hl => ?_)
        have hl := lv_sub hl [1, 2, 0] (l' := [(0, .ref (ad 0)), (1, .int r12), (2, .int 0)]) rfl
        refine lv_iconst (v := 0) hx hb dX12_one_27 (by decide) ?_
        refine lv_istore_n (lv' := [(3, .int 0), (0, .ref (ad 0)), (1, .int r12), (2, .int 0)]) hx hb dX12_one_28 rfl hl (by decide) rfl (fun ls hl => ?_)
        have hl := lv_sub hl [1, 2, 3, 0] (l' := [(0, .ref (ad 0)), (1, .int r12), (2, .int 0), (3, .int 0)]) rfl
        exact w29 FU σ 0 0 H locs ls h hP hD hS (lv_sub hl [0, 2, 3] rfl)
    · have h := cdN hcd h
      refine lv_iconst (v := 0) hx hb dX12_one_12 (by decide) ?_
      exact ux_iret hx hb hr h hP hD hS hlocks dX12_one_13
  intro H locs ls h hP hD hS hl
  exact w0 σ H locs ls h hP hD hS (lv_sub hl [0] rfl)

set_option maxRecDepth 100000 in
theorem gGX12_sum (l : Launch) (dC : Nat → ClassId) (dI : Nat → Nat → Nat) (cy : Nat → ClassId) (ad : Nat → Nat) (d : Nat) : (∀ (σ : S2) (sz : Nat) (r0 : Int32) (σ9 : S2), GX12_sum d 0 σ = some (r0, σ9) → Met l yX12_sum wsX12_sum ({ frames := 3 + d, cells := 0, slots := 0, locals := 64 + 23 * d }) (va_Pc [.ref (ad 0)] (wPre (dC, dI) cy (wG (cM cy ad) ad 40 σ) sz)) (va_Qi (fun (r : Int32) (_ : Unit) => r = r0) (fun (_ : Unit) t => wAt (dC, dI) (va_A (wG (cM cy ad) ad 40 σ) sz) (wG (cM cy ad) ad 40 σ9) t) (va_A (wG (cM cy ad) ad 40 σ) sz)) 0 0 (va_A (wG (cM cy ad) ad 40 σ) sz)) ∧ (∀ (σ : S2) (sz : Nat) (r0 : Int32) (σ9 : S2), GX12_sum d 1 σ = some (r0, σ9) → Met l yX12_product wsX12_product ({ frames := 3 + d, cells := 0, slots := 0, locals := 64 + 23 * d }) (va_Pc [.ref (ad 0)] (wPre (dC, dI) cy (wG (cM cy ad) ad 40 σ) sz)) (va_Qi (fun (r : Int32) (_ : Unit) => r = r0) (fun (_ : Unit) t => wAt (dC, dI) (va_A (wG (cM cy ad) ad 40 σ) sz) (wG (cM cy ad) ad 40 σ9) t) (va_A (wG (cM cy ad) ad 40 σ) sz)) 0 0 (va_A (wG (cM cy ad) ad 40 σ) sz)) ∧ (∀ (σ : S2) (sz : Nat) (r0 : Int32) (σ9 : S2), GX12_sum d 2 σ = some (r0, σ9) → Met l yX12_one wsX12_one ({ frames := 3 + d, cells := 0, slots := 0, locals := 64 + 23 * d }) (va_Pc [.ref (ad 0)] (wPre (dC, dI) cy (wG (cM cy ad) ad 40 σ) sz)) (va_Qi (fun (r : Int32) (_ : Unit) => r = r0) (fun (_ : Unit) t => wAt (dC, dI) (va_A (wG (cM cy ad) ad 40 σ) sz) (wG (cM cy ad) ad 40 σ9) t) (va_A (wG (cM cy ad) ad 40 σ) sz)) 0 0 (va_A (wG (cM cy ad) ad 40 σ) sz)) := by
  induction d with
  | zero => exact ⟨by intros; contradiction, by intros; contradiction, by intros; contradiction⟩
  | succ d ih =>
    exact ⟨(fun σ sz r0 σ9 h => uX12_sum l dC dI cy ad d _ (ih.1) _ (ih.2.1) _ (ih.2.2) σ sz r0 σ9 h), (fun σ sz r0 σ9 h => uX12_product l dC dI cy ad d _ (ih.1) _ (ih.2.1) _ (ih.2.2) σ sz r0 σ9 h), (fun σ sz r0 σ9 h => uX12_one l dC dI cy ad d _ (ih.1) _ (ih.2.1) _ (ih.2.2) σ sz r0 σ9 h)⟩

theorem tX12_sum (l : Launch) (dC : Nat → ClassId) (dI : Nat → Nat → Nat) (cy : Nat → ClassId) (ad : Nat → Nat) : ∀ (σ : S2) (sz : Nat) (r0 : Int32) (σ9 : S2), fX12_sum σ = some (r0, σ9) → Met l yX12_sum wsX12_sum ({ frames := 27, cells := 0, slots := 0, locals := 616 }) (va_Pc [.ref (ad 0)] (wPre (dC, dI) cy (wG (cM cy ad) ad 40 σ) sz)) (va_Qi (fun (r : Int32) (_ : Unit) => r = r0) (fun (_ : Unit) t => wAt (dC, dI) (va_A (wG (cM cy ad) ad 40 σ) sz) (wG (cM cy ad) ad 40 σ9) t) (va_A (wG (cM cy ad) ad 40 σ) sz)) 0 0 (va_A (wG (cM cy ad) ad 40 σ) sz) := (gGX12_sum l dC dI cy ad 24).1

theorem tX12_product (l : Launch) (dC : Nat → ClassId) (dI : Nat → Nat → Nat) (cy : Nat → ClassId) (ad : Nat → Nat) : ∀ (σ : S2) (sz : Nat) (r0 : Int32) (σ9 : S2), fX12_product σ = some (r0, σ9) → Met l yX12_product wsX12_product ({ frames := 27, cells := 0, slots := 0, locals := 616 }) (va_Pc [.ref (ad 0)] (wPre (dC, dI) cy (wG (cM cy ad) ad 40 σ) sz)) (va_Qi (fun (r : Int32) (_ : Unit) => r = r0) (fun (_ : Unit) t => wAt (dC, dI) (va_A (wG (cM cy ad) ad 40 σ) sz) (wG (cM cy ad) ad 40 σ9) t) (va_A (wG (cM cy ad) ad 40 σ) sz)) 0 0 (va_A (wG (cM cy ad) ad 40 σ) sz) := (gGX12_sum l dC dI cy ad 24).2.1

theorem tX12_one (l : Launch) (dC : Nat → ClassId) (dI : Nat → Nat → Nat) (cy : Nat → ClassId) (ad : Nat → Nat) : ∀ (σ : S2) (sz : Nat) (r0 : Int32) (σ9 : S2), fX12_one σ = some (r0, σ9) → Met l yX12_one wsX12_one ({ frames := 27, cells := 0, slots := 0, locals := 616 }) (va_Pc [.ref (ad 0)] (wPre (dC, dI) cy (wG (cM cy ad) ad 40 σ) sz)) (va_Qi (fun (r : Int32) (_ : Unit) => r = r0) (fun (_ : Unit) t => wAt (dC, dI) (va_A (wG (cM cy ad) ad 40 σ) sz) (wG (cM cy ad) ad 40 σ9) t) (va_A (wG (cM cy ad) ad 40 σ) sz)) 0 0 (va_A (wG (cM cy ad) ad 40 σ) sz) := (gGX12_sum l dC dI cy ad 24).2.2

set_option maxHeartbeats 4000000 in
set_option maxRecDepth 100000 in
theorem tX12_held (l : Launch) (dC : Nat → ClassId) (dI : Nat → Nat → Nat) (cy : Nat → ClassId) (ad : Nat → Nat) (σ : S2) (a0 : Int32) (sz : Nat) (r0 : Int32) (h : fX12_held σ a0 = some r0) : Met l yX12_held wsX12_held ({ frames := 1, cells := 0, slots := 0, locals := 23 }) (va_Pc [.int a0] (wPre (dC, dI) cy (wG (cM cy ad) ad 40 σ) sz)) (va_Qi (fun (r : Int32) (_ : Unit) => r = r0) (fun (_ : Unit) t => wAt (dC, dI) (va_A (wG (cM cy ad) ad 40 σ) sz) (wG (cM cy ad) ad 40 σ) t) (va_A (wG (cM cy ad) ad 40 σ) sz)) 0 0 (va_A (wG (cM cy ad) ad 40 σ) sz) := by
  refine Met.ofW (cc := cX12_held) (maxL := 1) (ret := (some .int)) (by decide) rfl ?_
  intro p e s m args below meth c s₁ B hml hv
  obtain ⟨rfl, hsz, hP, hK, hD0, hN⟩ := hv
  have hx := B.exec
  have hb := B.bytes
  have hr := B.returns
  have hts := atoms_spec (ws := wsX12_held) B.pre
  have hown : s.vm.findClass RX12 = some m.cls := findClass_of_methodNamed B.named
  have hlocks := B.notSynchronized
  subst hsz
  have hD := hD0.self (sz := s.heap.size)
  generalize hAe : va_A (wG (cM cy ad) ad 40 σ) s.heap.size = A at hD ⊢
  have hA : ∀ q : Nat, s.heap.size ≤ q → A q := fun q h => by rw [← hAe]; exact Or.inr h
  have hS : va_S A s.heap s.heap [] := va_S.rf
  have hl := lv_entry ([.int a0]) (n := 1) (Nat.le_of_ble_eq_true rfl)
  rw [lg_entry_eq]
  generalize (lg_sl ([.int a0]) ++ List.replicate (1 - (lg_sl ([.int a0])).length) Slot.unset).toArray = ls at hl ⊢
  have hl : lv_has ls 1 [(0, .int a0)] := hl
  unfold fX12_held at h
  clear hAe hD0
  suffices HH : ∀ (H : Heap) (locs : List Loc) (ls : Array Slot), fX12_held_0 σ a0 = some r0 → va_P (dC, dI) vwCl (wG (cM cy ad) ad 40 σ) H → va_D A (wG (cM cy ad) ad 40 σ) → va_S A s.heap H locs → lv_has ls 1 [(0, .int a0)] → W p l e (headSpec wsX12_held ({ frames := 1, cells := 0, slots := 0, locals := 23 })).room s m (#[.int a0]) below meth c H locs 0 0 (MQ below (va_Qi (fun (r : Int32) (_ : Unit) => r = r0) (fun (_ : Unit) t => wAt (dC, dI) A (wG (cM cy ad) ad 40 σ) t) A) (#[.int a0]) s 0 0 A) (F0 m 0 ls []) from HH s.heap [] ls h hP hD hS hl
  have w0 : ∀ (σ : S2) (x0 : Int32) (H : Heap) (locs : List Loc) (ls : Array Slot), fX12_held_0 σ x0 = some r0 → va_P (dC, dI) vwCl (wG (cM cy ad) ad 40 σ) H → va_D A (wG (cM cy ad) ad 40 σ) → va_S A s.heap H locs → lv_has ls 1 [(0, .int x0)] → W p l e (headSpec wsX12_held ({ frames := 1, cells := 0, slots := 0, locals := 23 })).room s m (#[.int a0]) below meth c H locs 0 0 (MQ below (va_Qi (fun (r : Int32) (_ : Unit) => r = r0) (fun (_ : Unit) t => wAt (dC, dI) A (wG (cM cy ad) ad 40 σ) t) A) (#[.int a0]) s 0 0 A) (F0 m 0 ls []) := by
    intro σ x0 H locs ls h hP hD hS hl
    unfold fX12_held_0 at h
    refine lv_iload_n hx hb dX12_held_0 rfl (lv_at hl 0 rfl) ?_
    refine lv_iconst (v := 1) hx hb dX12_held_1 (by decide) ?_
    refine lv_icmp_ge (tgt := 9) hx hb dX12_held_2 (by decide) (fun hcd => ?_) (fun hcd => ?_)
    · have h := cdP hcd h
      refine lv_iload_n hx hb dX12_held_9 rfl (lv_at hl 0 rfl) ?_
      refine lv_iconst (v := 4) hx hb dX12_held_10 (by decide) ?_
      refine lv_icmp_le (tgt := 18) hx hb dX12_held_11 (by decide) (fun hcd => ?_) (fun hcd => ?_)
      · have h := cdP hcd h
        refine lv_iload_n hx hb dX12_held_18 rfl (lv_at hl 0 rfl) ?_
        exact ux_iretP hx hb hr h hP hD hS hlocks dX12_held_19
      · have h := cdN hcd h
        refine lv_iconst (v := 4) hx hb dX12_held_14 (by decide) ?_
        refine lv_goto (tgt := 19) hx hb dX12_held_15 (by decide) ?_
        exact ux_iretP hx hb hr h hP hD hS hlocks dX12_held_19
    · have h := cdN hcd h
      refine lv_iconst (v := 1) hx hb dX12_held_5 (by decide) ?_
      refine lv_goto (tgt := 19) hx hb dX12_held_6 (by decide) ?_
      exact ux_iretP hx hb hr h hP hD hS hlocks dX12_held_19
  intro H locs ls h hP hD hS hl
  exact w0 σ a0 H locs ls h hP hD hS (lv_sub hl [0] rfl)

set_option maxHeartbeats 4000000 in
set_option maxRecDepth 100000 in
theorem tX12_reads (l : Launch) (dC : Nat → ClassId) (dI : Nat → Nat → Nat) (cy : Nat → ClassId) (ad : Nat → Nat) (σ : S2) (a1 : Int32) (sz : Nat) (r0 : Int32) (σ9 : S2) (h : fX12_reads σ a1 = some (r0, σ9)) : Met l yX12_reads wsX12_reads ({ frames := 28, cells := 0, slots := 0, locals := 639 }) (va_Pc [.ref (ad 0), .int a1] (wPre (dC, dI) cy (wG (cM cy ad) ad 40 σ) sz)) (va_Qi (fun (r : Int32) (_ : Unit) => r = r0) (fun (_ : Unit) t => wAt (dC, dI) (va_A (wG (cM cy ad) ad 40 σ) sz) (wG (cM cy ad) ad 40 σ9) t) (va_A (wG (cM cy ad) ad 40 σ) sz)) 0 0 (va_A (wG (cM cy ad) ad 40 σ) sz) := by
  refine Met.ofW (cc := cX12_reads) (maxL := 7) (ret := (some .int)) (by decide) rfl ?_
  intro p e s m args below meth c s₁ B hml hv
  obtain ⟨rfl, hsz, hP, hK, hD0, hN⟩ := hv
  have hx := B.exec
  have hb := B.bytes
  have hr := B.returns
  have hts := atoms_spec (ws := wsX12_reads) B.pre
  have hown : s.vm.findClass RX12 = some m.cls := findClass_of_methodNamed B.named
  have hlocks := B.notSynchronized
  subst hsz
  have hD := hD0.self (sz := s.heap.size)
  generalize hAe : va_A (wG (cM cy ad) ad 40 σ) s.heap.size = A at hD ⊢
  have hA : ∀ q : Nat, s.heap.size ≤ q → A q := fun q h => by rw [← hAe]; exact Or.inr h
  have hS : va_S A s.heap s.heap [] := va_S.rf
  have hl := lv_entry ([.ref (ad 0), .int a1]) (n := 7) (Nat.le_of_ble_eq_true rfl)
  rw [lg_entry_eq]
  generalize (lg_sl ([.ref (ad 0), .int a1]) ++ List.replicate (7 - (lg_sl ([.ref (ad 0), .int a1])).length) Slot.unset).toArray = ls at hl ⊢
  have hl : lv_has ls 7 [(0, .ref (ad 0)), (1, .int a1)] := hl
  unfold fX12_reads at h
  clear hAe hD0
  suffices HH : ∀ (H : Heap) (locs : List Loc) (ls : Array Slot), fX12_reads_0 σ a1 = some (r0, σ9) → va_P (dC, dI) vwCl (wG (cM cy ad) ad 40 σ) H → va_D A (wG (cM cy ad) ad 40 σ) → va_S A s.heap H locs → lv_has ls 7 [(0, .ref (ad 0)), (1, .int a1)] → W p l e (headSpec wsX12_reads ({ frames := 28, cells := 0, slots := 0, locals := 639 })).room s m (#[.ref (ad 0), .int a1]) below meth c H locs 0 0 (MQ below (va_Qi (fun (r : Int32) (_ : Unit) => r = r0) (fun (_ : Unit) t => wAt (dC, dI) A (wG (cM cy ad) ad 40 σ9) t) A) (#[.ref (ad 0), .int a1]) s 0 0 A) (F0 m 0 ls []) from HH s.heap [] ls h hP hD hS hl
  have w338 : ∀ (σ : S2)  (H : Heap) (locs : List Loc) (ls : Array Slot), fX12_reads_338 σ = some (r0, σ9) → va_P (dC, dI) vwCl (wG (cM cy ad) ad 40 σ) H → va_D A (wG (cM cy ad) ad 40 σ) → va_S A s.heap H locs → lv_has ls 7 [(0, .ref (ad 0))] → W p l e (headSpec wsX12_reads ({ frames := 28, cells := 0, slots := 0, locals := 639 })).room s m (#[.ref (ad 0), .int a1]) below meth c H locs 0 0 (MQ below (va_Qi (fun (r : Int32) (_ : Unit) => r = r0) (fun (_ : Unit) t => wAt (dC, dI) A (wG (cM cy ad) ad 40 σ9) t) A) (#[.ref (ad 0), .int a1]) s 0 0 A) (F0 m 338 ls []) := by
    intro σ H locs ls h hP hD hS hl
    unfold fX12_reads_338 at h
    refine lv_aload_n hx hb dX12_reads_338 rfl (lv_at hl 0 rfl) ?_
    refine ux_get (D := (dC, dI)) (ci := 12) (v := .int (σ.1 0 45)) (C := RX12) (T := TX12) (M := 59) (fs := (oM ad (σ.1 0))) hx hb hts (fun _ h9 => List.mem_cons_of_mem _ (List.mem_append_right _ h9)) hown hK hP 0 (Nat.le_of_ble_eq_true rfl) rfl rfl 45 (by decide) (hts (.fieldLink RX12 177 "SeatsRoundModel" "at" "I") (List.mem_of_getElem? (i := 2) rfl)) (fun _ h9 => h9) rfl dX12_reads_339 ?_
    refine lv_goto (tgt := 346) hx hb dX12_reads_342 (by decide) ?_
    exact ux_iret hx hb hr h hP hD hS hlocks dX12_reads_346
  have w311 : ∀ (k45 : S2 → Int32 → Int32 → Int32 → Option (Int32 × S2)) (hk45 : ∀ (σ : S2) (x1 : Int32) (x2 : Int32) (x3 : Int32) (H : Heap) (locs : List Loc) (ls : Array Slot), k45 σ x1 x2 x3 = some (r0, σ9) → va_P (dC, dI) vwCl (wG (cM cy ad) ad 40 σ) H → va_D A (wG (cM cy ad) ad 40 σ) → va_S A s.heap H locs → lv_has ls 7 [(0, .ref (ad 0)), (1, .int x1), (2, .int x2), (3, .int x3)] → W p l e (headSpec wsX12_reads ({ frames := 28, cells := 0, slots := 0, locals := 639 })).room s m (#[.ref (ad 0), .int a1]) below meth c H locs 0 0 (MQ below (va_Qi (fun (r : Int32) (_ : Unit) => r = r0) (fun (_ : Unit) t => wAt (dC, dI) A (wG (cM cy ad) ad 40 σ9) t) A) (#[.ref (ad 0), .int a1]) s 0 0 A) (F0 m 45 ls [])) , ∀ (σ : S2) (x1 : Int32) (x2 : Int32) (x3 : Int32) (s0 : Int32) (s1 : Int32) (H : Heap) (locs : List Loc) (ls : Array Slot), fX12_reads_311 k45 σ x1 x2 x3 s0 s1 = some (r0, σ9) → va_P (dC, dI) vwCl (wG (cM cy ad) ad 40 σ) H → va_D A (wG (cM cy ad) ad 40 σ) → va_S A s.heap H locs → lv_has ls 7 [(0, .ref (ad 0)), (1, .int x1), (2, .int x2), (3, .int x3)] → W p l e (headSpec wsX12_reads ({ frames := 28, cells := 0, slots := 0, locals := 639 })).room s m (#[.ref (ad 0), .int a1]) below meth c H locs 0 0 (MQ below (va_Qi (fun (r : Int32) (_ : Unit) => r = r0) (fun (_ : Unit) t => wAt (dC, dI) A (wG (cM cy ad) ad 40 σ9) t) A) (#[.ref (ad 0), .int a1]) s 0 0 A) (F0 m 311 ls [.int s0, .int s1, .ref (ad 0)]) := by
    intro k45 hk45 σ x1 x2 x3 s0 s1 H locs ls h hP hD hS hl
    unfold fX12_reads_311 at h
    refine lv_iadd hx hb dX12_reads_311 ?_
    refine ux_put (D := (dC, dI)) (ci := 12) (C := RX12) (T := TX12) (M := 59) (fs := (oM ad (σ.1 0))) hx hb hts (fun _ h9 => List.mem_cons_of_mem _ (List.mem_append_right _ h9)) tyX12 tyX12_ok nmX12 hown hK hP hD hS 0 (Nat.le_of_ble_eq_true rfl) rfl rfl 45 (by decide) (hts (.fieldLink RX12 177 "SeatsRoundModel" "at" "I") (List.mem_of_getElem? (i := 2) rfl)) (fun _ h9 => h9) rfl (tyX12_ok 45 (by decide)) rfl rfl (Nat.le_of_ble_eq_true rfl) (oM_set_45 _ _ _ _ _) h dX12_reads_312 (fun σ1 H locs h hP hD hS => ?_)
    refine lv_goto (tgt := 45) hx hb dX12_reads_315 (by decide) ?_
    exact hk45 σ1 x1 x2 x3 H locs ls h hP hD hS hl
  have w296 : ∀ (k45 : S2 → Int32 → Int32 → Int32 → Option (Int32 × S2)) (hk45 : ∀ (σ : S2) (x1 : Int32) (x2 : Int32) (x3 : Int32) (H : Heap) (locs : List Loc) (ls : Array Slot), k45 σ x1 x2 x3 = some (r0, σ9) → va_P (dC, dI) vwCl (wG (cM cy ad) ad 40 σ) H → va_D A (wG (cM cy ad) ad 40 σ) → va_S A s.heap H locs → lv_has ls 7 [(0, .ref (ad 0)), (1, .int x1), (2, .int x2), (3, .int x3)] → W p l e (headSpec wsX12_reads ({ frames := 28, cells := 0, slots := 0, locals := 639 })).room s m (#[.ref (ad 0), .int a1]) below meth c H locs 0 0 (MQ below (va_Qi (fun (r : Int32) (_ : Unit) => r = r0) (fun (_ : Unit) t => wAt (dC, dI) A (wG (cM cy ad) ad 40 σ9) t) A) (#[.ref (ad 0), .int a1]) s 0 0 A) (F0 m 45 ls [])) , ∀ (σ : S2) (x1 : Int32) (x2 : Int32) (s0 : Int32) (H : Heap) (locs : List Loc) (ls : Array Slot), fX12_reads_296 k45 σ x1 x2 s0 = some (r0, σ9) → va_P (dC, dI) vwCl (wG (cM cy ad) ad 40 σ) H → va_D A (wG (cM cy ad) ad 40 σ) → va_S A s.heap H locs → lv_has ls 7 [(0, .ref (ad 0)), (1, .int x1), (2, .int x2)] → W p l e (headSpec wsX12_reads ({ frames := 28, cells := 0, slots := 0, locals := 639 })).room s m (#[.ref (ad 0), .int a1]) below meth c H locs 0 0 (MQ below (va_Qi (fun (r : Int32) (_ : Unit) => r = r0) (fun (_ : Unit) t => wAt (dC, dI) A (wG (cM cy ad) ad 40 σ9) t) A) (#[.ref (ad 0), .int a1]) s 0 0 A) (F0 m 296 ls [.int s0]) := by
    intro k45 hk45 σ x1 x2 s0 H locs ls h hP hD hS hl
    unfold fX12_reads_296 at h
    refine lv_istore_n (lv' := [(3, .int s0), (0, .ref (ad 0)), (1, .int x1), (2, .int x2)]) hx hb dX12_reads_296 rfl hl (by decide) rfl (fun ls hl => ?_)
    have hl := lv_sub hl [1, 2, 3, 0] (l' := [(0, .ref (ad 0)), (1, .int x1), (2, .int x2), (3, .int s0)]) rfl
    refine lv_aload_n hx hb dX12_reads_297 rfl (lv_at hl 0 rfl) ?_
    refine lv_dup hx hb dX12_reads_298 rfl ?_
    refine ux_get (D := (dC, dI)) (ci := 12) (v := .int (σ.1 0 45)) (C := RX12) (T := TX12) (M := 59) (fs := (oM ad (σ.1 0))) hx hb hts (fun _ h9 => List.mem_cons_of_mem _ (List.mem_append_right _ h9)) hown hK hP 0 (Nat.le_of_ble_eq_true rfl) rfl rfl 45 (by decide) (hts (.fieldLink RX12 177 "SeatsRoundModel" "at" "I") (List.mem_of_getElem? (i := 2) rfl)) (fun _ h9 => h9) rfl dX12_reads_299 ?_
    refine lv_iload_n hx hb dX12_reads_302 rfl (lv_at hl 3 rfl) ?_
    refine lv_if_eq (tgt := 310) hx hb dX12_reads_303 (by decide) (fun hcd => ?_) (fun hcd => ?_)
    · have h := cdP hcd h
      refine lv_iconst (v := 0) hx hb dX12_reads_310 (by decide) ?_
      exact w311 _ hk45 σ x1 x2 s0 0 (σ.1 0 45) H locs ls h hP hD hS hl
    · have h := cdN hcd h
      refine lv_iconst (v := 1) hx hb dX12_reads_306 (by decide) ?_
      refine lv_goto (tgt := 311) hx hb dX12_reads_307 (by decide) ?_
      exact w311 _ hk45 σ x1 x2 s0 1 (σ.1 0 45) H locs ls h hP hD hS hl
  have w295 : ∀ (k45 : S2 → Int32 → Int32 → Int32 → Option (Int32 × S2)) (hk45 : ∀ (σ : S2) (x1 : Int32) (x2 : Int32) (x3 : Int32) (H : Heap) (locs : List Loc) (ls : Array Slot), k45 σ x1 x2 x3 = some (r0, σ9) → va_P (dC, dI) vwCl (wG (cM cy ad) ad 40 σ) H → va_D A (wG (cM cy ad) ad 40 σ) → va_S A s.heap H locs → lv_has ls 7 [(0, .ref (ad 0)), (1, .int x1), (2, .int x2), (3, .int x3)] → W p l e (headSpec wsX12_reads ({ frames := 28, cells := 0, slots := 0, locals := 639 })).room s m (#[.ref (ad 0), .int a1]) below meth c H locs 0 0 (MQ below (va_Qi (fun (r : Int32) (_ : Unit) => r = r0) (fun (_ : Unit) t => wAt (dC, dI) A (wG (cM cy ad) ad 40 σ9) t) A) (#[.ref (ad 0), .int a1]) s 0 0 A) (F0 m 45 ls [])) , ∀ (σ : S2) (x1 : Int32) (x2 : Int32) (H : Heap) (locs : List Loc) (ls : Array Slot), fX12_reads_295 k45 σ x1 x2 = some (r0, σ9) → va_P (dC, dI) vwCl (wG (cM cy ad) ad 40 σ) H → va_D A (wG (cM cy ad) ad 40 σ) → va_S A s.heap H locs → lv_has ls 7 [(0, .ref (ad 0)), (1, .int x1), (2, .int x2)] → W p l e (headSpec wsX12_reads ({ frames := 28, cells := 0, slots := 0, locals := 639 })).room s m (#[.ref (ad 0), .int a1]) below meth c H locs 0 0 (MQ below (va_Qi (fun (r : Int32) (_ : Unit) => r = r0) (fun (_ : Unit) t => wAt (dC, dI) A (wG (cM cy ad) ad 40 σ9) t) A) (#[.ref (ad 0), .int a1]) s 0 0 A) (F0 m 295 ls []) := by
    intro k45 hk45 σ x1 x2 H locs ls h hP hD hS hl
    unfold fX12_reads_295 at h
    refine lv_iconst (v := 0) hx hb dX12_reads_295 (by decide) ?_
    exact w296 _ hk45 σ x1 x2 0 H locs ls h hP hD hS hl
  have w275 : ∀ (k45 : S2 → Int32 → Int32 → Int32 → Option (Int32 × S2)) (hk45 : ∀ (σ : S2) (x1 : Int32) (x2 : Int32) (x3 : Int32) (H : Heap) (locs : List Loc) (ls : Array Slot), k45 σ x1 x2 x3 = some (r0, σ9) → va_P (dC, dI) vwCl (wG (cM cy ad) ad 40 σ) H → va_D A (wG (cM cy ad) ad 40 σ) → va_S A s.heap H locs → lv_has ls 7 [(0, .ref (ad 0)), (1, .int x1), (2, .int x2), (3, .int x3)] → W p l e (headSpec wsX12_reads ({ frames := 28, cells := 0, slots := 0, locals := 639 })).room s m (#[.ref (ad 0), .int a1]) below meth c H locs 0 0 (MQ below (va_Qi (fun (r : Int32) (_ : Unit) => r = r0) (fun (_ : Unit) t => wAt (dC, dI) A (wG (cM cy ad) ad 40 σ9) t) A) (#[.ref (ad 0), .int a1]) s 0 0 A) (F0 m 45 ls [])) , ∀ (σ : S2) (x1 : Int32) (x2 : Int32) (H : Heap) (locs : List Loc) (ls : Array Slot), fX12_reads_275 k45 σ x1 x2 = some (r0, σ9) → va_P (dC, dI) vwCl (wG (cM cy ad) ad 40 σ) H → va_D A (wG (cM cy ad) ad 40 σ) → va_S A s.heap H locs → lv_has ls 7 [(0, .ref (ad 0)), (1, .int x1), (2, .int x2)] → W p l e (headSpec wsX12_reads ({ frames := 28, cells := 0, slots := 0, locals := 639 })).room s m (#[.ref (ad 0), .int a1]) below meth c H locs 0 0 (MQ below (va_Qi (fun (r : Int32) (_ : Unit) => r = r0) (fun (_ : Unit) t => wAt (dC, dI) A (wG (cM cy ad) ad 40 σ9) t) A) (#[.ref (ad 0), .int a1]) s 0 0 A) (F0 m 275 ls []) := by
    intro k45 hk45 σ x1 x2 H locs ls h hP hD hS hl
    unfold fX12_reads_275 at h
    refine lv_aload_n hx hb dX12_reads_275 rfl (lv_at hl 0 rfl) ?_
    refine ux_get (D := (dC, dI)) (ci := 12) (v := .int (σ.1 0 47)) (C := RX12) (T := TX12) (M := 59) (fs := (oM ad (σ.1 0))) hx hb hts (fun _ h9 => List.mem_cons_of_mem _ (List.mem_append_right _ h9)) hown hK hP 0 (Nat.le_of_ble_eq_true rfl) rfl rfl 47 (by decide) (hts (.fieldLink RX12 183 "SeatsRoundModel" "isFaulty" "Z") (List.mem_of_getElem? (i := 4) rfl)) (fun _ h9 => h9) rfl dX12_reads_276 ?_
    refine lv_if_ne (tgt := 295) hx hb dX12_reads_279 (by decide) (fun hcd => ?_) (fun hcd => ?_)
    · have h := cdN hcd h
      exact w295 _ hk45 σ x1 x2 H locs ls h hP hD hS hl
    · have h := cdP hcd h
      refine lv_aload_n hx hb dX12_reads_282 rfl (lv_at hl 0 rfl) ?_
      obtain ⟨r2, hf3, h⟩ := biS h
      refine ux_calli (va_runV (As := []) (rest := []) ⟨hx, hb, hml, hown, hts⟩ (tX12_here l dC dI cy ad σ H.size r2 hf3) (cwV 0 hts gX12_reads_X12_here rfl rfl rfl (by decide +kernel) ⟨Nat.le_of_ble_eq_true rfl, Nat.le_of_ble_eq_true rfl⟩) (wp_V hK hN hP hD (va_recv hK hP (ci := 12) (q0 := 0) rfl (wG_of (Nat.le_of_ble_eq_true rfl) rfl))) rfl rfl hl.1 rfl (lv_room (Nat.le_of_ble_eq_true rfl)) dX12_reads_283 ⟨Nat.le_of_ble_eq_true rfl, Nat.le_of_ble_eq_true rfl⟩) hD hS hA (fun H locs hP hD hS => ?_)
      refine lv_bipush (v := 59) hx hb dX12_reads_286 (by decide) ?_
      refine lv_icmp_ne (tgt := 295) hx hb dX12_reads_288 (by decide) (fun hcd => ?_) (fun hcd => ?_)
      · have h := cdN hcd h
        exact w295 _ hk45 σ x1 x2 H locs ls h hP hD hS hl
      · have h := cdP hcd h
        refine lv_iconst (v := 1) hx hb dX12_reads_291 (by decide) ?_
        refine lv_goto (tgt := 296) hx hb dX12_reads_292 (by decide) ?_
        exact w296 _ hk45 σ x1 x2 1 H locs ls h hP hD hS hl
  have w274 : ∀ (k45 : S2 → Int32 → Int32 → Int32 → Option (Int32 × S2)) (hk45 : ∀ (σ : S2) (x1 : Int32) (x2 : Int32) (x3 : Int32) (H : Heap) (locs : List Loc) (ls : Array Slot), k45 σ x1 x2 x3 = some (r0, σ9) → va_P (dC, dI) vwCl (wG (cM cy ad) ad 40 σ) H → va_D A (wG (cM cy ad) ad 40 σ) → va_S A s.heap H locs → lv_has ls 7 [(0, .ref (ad 0)), (1, .int x1), (2, .int x2), (3, .int x3)] → W p l e (headSpec wsX12_reads ({ frames := 28, cells := 0, slots := 0, locals := 639 })).room s m (#[.ref (ad 0), .int a1]) below meth c H locs 0 0 (MQ below (va_Qi (fun (r : Int32) (_ : Unit) => r = r0) (fun (_ : Unit) t => wAt (dC, dI) A (wG (cM cy ad) ad 40 σ9) t) A) (#[.ref (ad 0), .int a1]) s 0 0 A) (F0 m 45 ls [])) , ∀ (σ : S2) (x1 : Int32) (x2 : Int32) (s0 : Int32) (s1 : Int32) (H : Heap) (locs : List Loc) (ls : Array Slot), fX12_reads_274 k45 σ x1 x2 s0 s1 = some (r0, σ9) → va_P (dC, dI) vwCl (wG (cM cy ad) ad 40 σ) H → va_D A (wG (cM cy ad) ad 40 σ) → va_S A s.heap H locs → lv_has ls 7 [(0, .ref (ad 0)), (1, .int x1), (2, .int x2)] → W p l e (headSpec wsX12_reads ({ frames := 28, cells := 0, slots := 0, locals := 639 })).room s m (#[.ref (ad 0), .int a1]) below meth c H locs 0 0 (MQ below (va_Qi (fun (r : Int32) (_ : Unit) => r = r0) (fun (_ : Unit) t => wAt (dC, dI) A (wG (cM cy ad) ad 40 σ9) t) A) (#[.ref (ad 0), .int a1]) s 0 0 A) (F0 m 274 ls [.int s0, .int s1, .ref (ad 11)]) := by
    intro k45 hk45 σ x1 x2 s0 s1 H locs ls h hP hD hS hl
    unfold fX12_reads_274 at h
    refine ux_iast hx hb hK hP hD hS 11 0 (Nat.le_of_ble_eq_true rfl) (fun _ => (cM_11 _ _ _ _)) rfl h dX12_reads_274 (fun σ4 H locs h hP hD hS => ?_)
    exact w275 _ hk45 σ4 x1 x2 H locs ls h hP hD hS hl
  have w251 : ∀ (k45 : S2 → Int32 → Int32 → Int32 → Option (Int32 × S2)) (hk45 : ∀ (σ : S2) (x1 : Int32) (x2 : Int32) (x3 : Int32) (H : Heap) (locs : List Loc) (ls : Array Slot), k45 σ x1 x2 x3 = some (r0, σ9) → va_P (dC, dI) vwCl (wG (cM cy ad) ad 40 σ) H → va_D A (wG (cM cy ad) ad 40 σ) → va_S A s.heap H locs → lv_has ls 7 [(0, .ref (ad 0)), (1, .int x1), (2, .int x2), (3, .int x3)] → W p l e (headSpec wsX12_reads ({ frames := 28, cells := 0, slots := 0, locals := 639 })).room s m (#[.ref (ad 0), .int a1]) below meth c H locs 0 0 (MQ below (va_Qi (fun (r : Int32) (_ : Unit) => r = r0) (fun (_ : Unit) t => wAt (dC, dI) A (wG (cM cy ad) ad 40 σ9) t) A) (#[.ref (ad 0), .int a1]) s 0 0 A) (F0 m 45 ls [])) , ∀ (σ : S2) (x1 : Int32) (x2 : Int32) (x5 : Int32) (x6 : Int32) (s0 : Int32) (s1 : Int32) (H : Heap) (locs : List Loc) (ls : Array Slot), fX12_reads_251 k45 σ x1 x2 x5 x6 s0 s1 = some (r0, σ9) → va_P (dC, dI) vwCl (wG (cM cy ad) ad 40 σ) H → va_D A (wG (cM cy ad) ad 40 σ) → va_S A s.heap H locs → lv_has ls 7 [(0, .ref (ad 0)), (1, .int x1), (2, .int x2), (5, .int x5), (6, .int x6)] → W p l e (headSpec wsX12_reads ({ frames := 28, cells := 0, slots := 0, locals := 639 })).room s m (#[.ref (ad 0), .int a1]) below meth c H locs 0 0 (MQ below (va_Qi (fun (r : Int32) (_ : Unit) => r = r0) (fun (_ : Unit) t => wAt (dC, dI) A (wG (cM cy ad) ad 40 σ9) t) A) (#[.ref (ad 0), .int a1]) s 0 0 A) (F0 m 251 ls [.int s0, .int s1, .ref (ad 10)]) := by
    intro k45 hk45 σ x1 x2 x5 x6 s0 s1 H locs ls h hP hD hS hl
    unfold fX12_reads_251 at h
    refine ux_iast hx hb hK hP hD hS 10 0 (Nat.le_of_ble_eq_true rfl) (fun _ => (cM_10 _ _ _ _)) rfl h dX12_reads_251 (fun σ5 H locs h hP hD hS => ?_)
    refine lv_aload_n hx hb dX12_reads_252 rfl (lv_at hl 0 rfl) ?_
    refine ux_get (D := (dC, dI)) (ci := 12) (v := .ref (ad 11)) (C := RX12) (T := TX12) (M := 59) (fs := (oM ad (σ5.1 0))) hx hb hts (fun _ h9 => List.mem_cons_of_mem _ (List.mem_append_right _ h9)) hown hK hP 0 (Nat.le_of_ble_eq_true rfl) rfl rfl 13 (by decide) (hts (.fieldLink RX12 41 "SeatsRoundModel" "streets" "[I") (List.mem_of_getElem? (i := 6) rfl)) (fun _ h9 => h9) rfl dX12_reads_253 ?_
    refine lv_iload_n hx hb dX12_reads_256 rfl (lv_at hl 1 rfl) ?_
    refine lv_iload hx hb dX12_reads_257 (lv_at hl 3 rfl) ?_
    refine lv_iconst (v := 2) hx hb dX12_reads_259 (by decide) ?_
    refine lv_icmp_ne (tgt := 268) hx hb dX12_reads_260 (by decide) (fun hcd => ?_) (fun hcd => ?_)
    · have h := cdN hcd h
      refine lv_aload_n hx hb dX12_reads_268 rfl (lv_at hl 0 rfl) ?_
      refine ux_get (D := (dC, dI)) (ci := 12) (v := .ref (ad 11)) (C := RX12) (T := TX12) (M := 59) (fs := (oM ad (σ5.1 0))) hx hb hts (fun _ h9 => List.mem_cons_of_mem _ (List.mem_append_right _ h9)) hown hK hP 0 (Nat.le_of_ble_eq_true rfl) rfl rfl 13 (by decide) (hts (.fieldLink RX12 41 "SeatsRoundModel" "streets" "[I") (List.mem_of_getElem? (i := 6) rfl)) (fun _ h9 => h9) rfl dX12_reads_269 ?_
      refine lv_iload_n hx hb dX12_reads_272 rfl (lv_at hl 1 rfl) ?_
      refine ux_iald hx hb hK hP 11 0 (Nat.le_of_ble_eq_true rfl) (cM_11 _ _ _ _) rfl h dX12_reads_273 (fun v6 h => ?_)
      exact w274 _ hk45 σ5 x1 x2 v6 x1 H locs ls h hP hD hS (lv_sub hl [0, 1, 2] rfl)
    · have h := cdP hcd h
      refine lv_iload hx hb dX12_reads_263 (lv_at hl 4 rfl) ?_
      refine lv_goto (tgt := 274) hx hb dX12_reads_265 (by decide) ?_
      exact w274 _ hk45 σ5 x1 x2 x6 x1 H locs ls h hP hD hS (lv_sub hl [0, 1, 2] rfl)
  have w206 : ∀ (k45 : S2 → Int32 → Int32 → Int32 → Option (Int32 × S2)) (hk45 : ∀ (σ : S2) (x1 : Int32) (x2 : Int32) (x3 : Int32) (H : Heap) (locs : List Loc) (ls : Array Slot), k45 σ x1 x2 x3 = some (r0, σ9) → va_P (dC, dI) vwCl (wG (cM cy ad) ad 40 σ) H → va_D A (wG (cM cy ad) ad 40 σ) → va_S A s.heap H locs → lv_has ls 7 [(0, .ref (ad 0)), (1, .int x1), (2, .int x2), (3, .int x3)] → W p l e (headSpec wsX12_reads ({ frames := 28, cells := 0, slots := 0, locals := 639 })).room s m (#[.ref (ad 0), .int a1]) below meth c H locs 0 0 (MQ below (va_Qi (fun (r : Int32) (_ : Unit) => r = r0) (fun (_ : Unit) t => wAt (dC, dI) A (wG (cM cy ad) ad 40 σ9) t) A) (#[.ref (ad 0), .int a1]) s 0 0 A) (F0 m 45 ls [])) , ∀ (σ : S2) (x1 : Int32) (x2 : Int32) (s0 : Int32) (s1 : Int32) (H : Heap) (locs : List Loc) (ls : Array Slot), fX12_reads_206 k45 σ x1 x2 s0 s1 = some (r0, σ9) → va_P (dC, dI) vwCl (wG (cM cy ad) ad 40 σ) H → va_D A (wG (cM cy ad) ad 40 σ) → va_S A s.heap H locs → lv_has ls 7 [(0, .ref (ad 0)), (1, .int x1), (2, .int x2)] → W p l e (headSpec wsX12_reads ({ frames := 28, cells := 0, slots := 0, locals := 639 })).room s m (#[.ref (ad 0), .int a1]) below meth c H locs 0 0 (MQ below (va_Qi (fun (r : Int32) (_ : Unit) => r = r0) (fun (_ : Unit) t => wAt (dC, dI) A (wG (cM cy ad) ad 40 σ9) t) A) (#[.ref (ad 0), .int a1]) s 0 0 A) (F0 m 206 ls [.int s0, .int s1, .ref (ad 0)]) := by
    intro k45 hk45 σ x1 x2 s0 s1 H locs ls h hP hD hS hl
    unfold fX12_reads_206 at h
    refine lv_iadd hx hb dX12_reads_206 ?_
    refine ux_put (D := (dC, dI)) (ci := 12) (C := RX12) (T := TX12) (M := 59) (fs := (oM ad (σ.1 0))) hx hb hts (fun _ h9 => List.mem_cons_of_mem _ (List.mem_append_right _ h9)) tyX12 tyX12_ok nmX12 hown hK hP hD hS 0 (Nat.le_of_ble_eq_true rfl) rfl rfl 45 (by decide) (hts (.fieldLink RX12 177 "SeatsRoundModel" "at" "I") (List.mem_of_getElem? (i := 2) rfl)) (fun _ h9 => h9) rfl (tyX12_ok 45 (by decide)) rfl rfl (Nat.le_of_ble_eq_true rfl) (oM_set_45 _ _ _ _ _) h dX12_reads_207 (fun σ7 H locs h hP hD hS => ?_)
    refine lv_goto (tgt := 275) hx hb dX12_reads_210 (by decide) ?_
    exact w275 _ hk45 σ7 x1 x2 H locs ls h hP hD hS hl
  have w188 : ∀ (k45 : S2 → Int32 → Int32 → Int32 → Option (Int32 × S2)) (hk45 : ∀ (σ : S2) (x1 : Int32) (x2 : Int32) (x3 : Int32) (H : Heap) (locs : List Loc) (ls : Array Slot), k45 σ x1 x2 x3 = some (r0, σ9) → va_P (dC, dI) vwCl (wG (cM cy ad) ad 40 σ) H → va_D A (wG (cM cy ad) ad 40 σ) → va_S A s.heap H locs → lv_has ls 7 [(0, .ref (ad 0)), (1, .int x1), (2, .int x2), (3, .int x3)] → W p l e (headSpec wsX12_reads ({ frames := 28, cells := 0, slots := 0, locals := 639 })).room s m (#[.ref (ad 0), .int a1]) below meth c H locs 0 0 (MQ below (va_Qi (fun (r : Int32) (_ : Unit) => r = r0) (fun (_ : Unit) t => wAt (dC, dI) A (wG (cM cy ad) ad 40 σ9) t) A) (#[.ref (ad 0), .int a1]) s 0 0 A) (F0 m 45 ls [])) , ∀ (σ : S2) (x1 : Int32) (x2 : Int32) (s0 : Int32) (s1 : Int32) (H : Heap) (locs : List Loc) (ls : Array Slot), fX12_reads_188 k45 σ x1 x2 s0 s1 = some (r0, σ9) → va_P (dC, dI) vwCl (wG (cM cy ad) ad 40 σ) H → va_D A (wG (cM cy ad) ad 40 σ) → va_S A s.heap H locs → lv_has ls 7 [(0, .ref (ad 0)), (1, .int x1), (2, .int x2)] → W p l e (headSpec wsX12_reads ({ frames := 28, cells := 0, slots := 0, locals := 639 })).room s m (#[.ref (ad 0), .int a1]) below meth c H locs 0 0 (MQ below (va_Qi (fun (r : Int32) (_ : Unit) => r = r0) (fun (_ : Unit) t => wAt (dC, dI) A (wG (cM cy ad) ad 40 σ9) t) A) (#[.ref (ad 0), .int a1]) s 0 0 A) (F0 m 188 ls [.int s0, .int s1, .ref (ad 12)]) := by
    intro k45 hk45 σ x1 x2 s0 s1 H locs ls h hP hD hS hl
    unfold fX12_reads_188 at h
    refine ux_iast hx hb hK hP hD hS 12 0 (Nat.le_of_ble_eq_true rfl) (fun _ => (cM_12 _ _ _ _)) rfl h dX12_reads_188 (fun σ8 H locs h hP hD hS => ?_)
    refine lv_aload_n hx hb dX12_reads_189 rfl (lv_at hl 0 rfl) ?_
    refine lv_dup hx hb dX12_reads_190 rfl ?_
    refine ux_get (D := (dC, dI)) (ci := 12) (v := .int (σ8.1 0 45)) (C := RX12) (T := TX12) (M := 59) (fs := (oM ad (σ8.1 0))) hx hb hts (fun _ h9 => List.mem_cons_of_mem _ (List.mem_append_right _ h9)) hown hK hP 0 (Nat.le_of_ble_eq_true rfl) rfl rfl 45 (by decide) (hts (.fieldLink RX12 177 "SeatsRoundModel" "at" "I") (List.mem_of_getElem? (i := 2) rfl)) (fun _ h9 => h9) rfl dX12_reads_191 ?_
    refine lv_aload_n hx hb dX12_reads_194 rfl (lv_at hl 0 rfl) ?_
    refine ux_get (D := (dC, dI)) (ci := 12) (v := .int (σ8.1 0 47)) (C := RX12) (T := TX12) (M := 59) (fs := (oM ad (σ8.1 0))) hx hb hts (fun _ h9 => List.mem_cons_of_mem _ (List.mem_append_right _ h9)) hown hK hP 0 (Nat.le_of_ble_eq_true rfl) rfl rfl 47 (by decide) (hts (.fieldLink RX12 183 "SeatsRoundModel" "isFaulty" "Z") (List.mem_of_getElem? (i := 4) rfl)) (fun _ h9 => h9) rfl dX12_reads_195 ?_
    refine lv_if_eq (tgt := 205) hx hb dX12_reads_198 (by decide) (fun hcd => ?_) (fun hcd => ?_)
    · have h := cdP hcd h
      refine lv_iconst (v := 1) hx hb dX12_reads_205 (by decide) ?_
      exact w206 _ hk45 σ8 x1 x2 1 (σ8.1 0 45) H locs ls h hP hD hS hl
    · have h := cdN hcd h
      refine lv_iconst (v := 0) hx hb dX12_reads_201 (by decide) ?_
      refine lv_goto (tgt := 206) hx hb dX12_reads_202 (by decide) ?_
      exact w206 _ hk45 σ8 x1 x2 0 (σ8.1 0 45) H locs ls h hP hD hS hl
  have w162 : ∀ (k45 : S2 → Int32 → Int32 → Int32 → Option (Int32 × S2)) (hk45 : ∀ (σ : S2) (x1 : Int32) (x2 : Int32) (x3 : Int32) (H : Heap) (locs : List Loc) (ls : Array Slot), k45 σ x1 x2 x3 = some (r0, σ9) → va_P (dC, dI) vwCl (wG (cM cy ad) ad 40 σ) H → va_D A (wG (cM cy ad) ad 40 σ) → va_S A s.heap H locs → lv_has ls 7 [(0, .ref (ad 0)), (1, .int x1), (2, .int x2), (3, .int x3)] → W p l e (headSpec wsX12_reads ({ frames := 28, cells := 0, slots := 0, locals := 639 })).room s m (#[.ref (ad 0), .int a1]) below meth c H locs 0 0 (MQ below (va_Qi (fun (r : Int32) (_ : Unit) => r = r0) (fun (_ : Unit) t => wAt (dC, dI) A (wG (cM cy ad) ad 40 σ9) t) A) (#[.ref (ad 0), .int a1]) s 0 0 A) (F0 m 45 ls [])) , ∀ (σ : S2) (x1 : Int32) (x2 : Int32) (s0 : Int32) (H : Heap) (locs : List Loc) (ls : Array Slot), fX12_reads_162 k45 σ x1 x2 s0 = some (r0, σ9) → va_P (dC, dI) vwCl (wG (cM cy ad) ad 40 σ) H → va_D A (wG (cM cy ad) ad 40 σ) → va_S A s.heap H locs → lv_has ls 7 [(0, .ref (ad 0)), (1, .int x1), (2, .int x2)] → W p l e (headSpec wsX12_reads ({ frames := 28, cells := 0, slots := 0, locals := 639 })).room s m (#[.ref (ad 0), .int a1]) below meth c H locs 0 0 (MQ below (va_Qi (fun (r : Int32) (_ : Unit) => r = r0) (fun (_ : Unit) t => wAt (dC, dI) A (wG (cM cy ad) ad 40 σ9) t) A) (#[.ref (ad 0), .int a1]) s 0 0 A) (F0 m 162 ls [.int s0, .ref (ad 0)]) := by
    intro k45 hk45 σ x1 x2 s0 H locs ls h hP hD hS hl
    unfold fX12_reads_162 at h
    obtain ⟨⟨hnz10, hfz10⟩, h⟩ := zfS h
    refine ux_put (D := (dC, dI)) (ci := 12) (C := RX12) (T := TX12) (M := 59) (fs := (oM ad (σ.1 0))) hx hb hts (fun _ h9 => List.mem_cons_of_mem _ (List.mem_append_right _ h9)) tyX12 tyX12_ok nmX12 hown hK hP hD hS 0 (Nat.le_of_ble_eq_true rfl) rfl rfl 47 (by decide) (hts (.fieldLink RX12 183 "SeatsRoundModel" "isFaulty" "Z") (List.mem_of_getElem? (i := 4) rfl)) (fun _ h9 => h9) rfl (tyX12_ok 47 (by decide)) hnz10 hfz10 (Nat.le_of_ble_eq_true rfl) (oM_set_47 _ _ _ _ _) h dX12_reads_162 (fun σ9 H locs h hP hD hS => ?_)
    refine lv_aload_n hx hb dX12_reads_165 rfl (lv_at hl 0 rfl) ?_
    refine ux_get (D := (dC, dI)) (ci := 12) (v := .ref (ad 12)) (C := RX12) (T := TX12) (M := 59) (fs := (oM ad (σ9.1 0))) hx hb hts (fun _ h9 => List.mem_cons_of_mem _ (List.mem_append_right _ h9)) hown hK hP 0 (Nat.le_of_ble_eq_true rfl) rfl rfl 14 (by decide) (hts (.fieldLink RX12 44 "SeatsRoundModel" "picks" "[I") (List.mem_of_getElem? (i := 7) rfl)) (fun _ h9 => h9) rfl dX12_reads_166 ?_
    refine lv_iload_n hx hb dX12_reads_169 rfl (lv_at hl 1 rfl) ?_
    refine lv_aload_n hx hb dX12_reads_170 rfl (lv_at hl 0 rfl) ?_
    refine ux_get (D := (dC, dI)) (ci := 12) (v := .int (σ9.1 0 47)) (C := RX12) (T := TX12) (M := 59) (fs := (oM ad (σ9.1 0))) hx hb hts (fun _ h9 => List.mem_cons_of_mem _ (List.mem_append_right _ h9)) hown hK hP 0 (Nat.le_of_ble_eq_true rfl) rfl rfl 47 (by decide) (hts (.fieldLink RX12 183 "SeatsRoundModel" "isFaulty" "Z") (List.mem_of_getElem? (i := 4) rfl)) (fun _ h9 => h9) rfl dX12_reads_171 ?_
    refine lv_if_eq (tgt := 181) hx hb dX12_reads_174 (by decide) (fun hcd => ?_) (fun hcd => ?_)
    · have h := cdP hcd h
      refine lv_aload_n hx hb dX12_reads_181 rfl (lv_at hl 0 rfl) ?_
      obtain ⟨r11, hf12, h⟩ := biS h
      refine ux_calli (va_runV (As := []) (rest := [.int x1, .ref (ad 12)]) ⟨hx, hb, hml, hown, hts⟩ (tX12_here l dC dI cy ad σ9 H.size r11 hf12) (cwV 0 hts gX12_reads_X12_here rfl rfl rfl (by decide +kernel) ⟨Nat.le_of_ble_eq_true rfl, Nat.le_of_ble_eq_true rfl⟩) (wp_V hK hN hP hD (va_recv hK hP (ci := 12) (q0 := 0) rfl (wG_of (Nat.le_of_ble_eq_true rfl) rfl))) rfl rfl hl.1 rfl (lv_room (Nat.le_of_ble_eq_true rfl)) dX12_reads_182 ⟨Nat.le_of_ble_eq_true rfl, Nat.le_of_ble_eq_true rfl⟩) hD hS hA (fun H locs hP hD hS => ?_)
      refine lv_bipush (v := 48) hx hb dX12_reads_185 (by decide) ?_
      refine lv_isub hx hb dX12_reads_187 ?_
      exact w188 _ hk45 σ9 x1 x2 (r11 - 48) x1 H locs ls h hP hD hS hl
    · have h := cdN hcd h
      refine lv_iconst (v := 0) hx hb dX12_reads_177 (by decide) ?_
      refine lv_goto (tgt := 188) hx hb dX12_reads_178 (by decide) ?_
      exact w188 _ hk45 σ9 x1 x2 0 x1 H locs ls h hP hD hS hl
  have w157 : ∀ (k45 : S2 → Int32 → Int32 → Int32 → Option (Int32 × S2)) (hk45 : ∀ (σ : S2) (x1 : Int32) (x2 : Int32) (x3 : Int32) (H : Heap) (locs : List Loc) (ls : Array Slot), k45 σ x1 x2 x3 = some (r0, σ9) → va_P (dC, dI) vwCl (wG (cM cy ad) ad 40 σ) H → va_D A (wG (cM cy ad) ad 40 σ) → va_S A s.heap H locs → lv_has ls 7 [(0, .ref (ad 0)), (1, .int x1), (2, .int x2), (3, .int x3)] → W p l e (headSpec wsX12_reads ({ frames := 28, cells := 0, slots := 0, locals := 639 })).room s m (#[.ref (ad 0), .int a1]) below meth c H locs 0 0 (MQ below (va_Qi (fun (r : Int32) (_ : Unit) => r = r0) (fun (_ : Unit) t => wAt (dC, dI) A (wG (cM cy ad) ad 40 σ9) t) A) (#[.ref (ad 0), .int a1]) s 0 0 A) (F0 m 45 ls [])) , ∀ (σ : S2) (x1 : Int32) (x2 : Int32) (H : Heap) (locs : List Loc) (ls : Array Slot), fX12_reads_157 k45 σ x1 x2 = some (r0, σ9) → va_P (dC, dI) vwCl (wG (cM cy ad) ad 40 σ) H → va_D A (wG (cM cy ad) ad 40 σ) → va_S A s.heap H locs → lv_has ls 7 [(0, .ref (ad 0)), (1, .int x1), (2, .int x2)] → W p l e (headSpec wsX12_reads ({ frames := 28, cells := 0, slots := 0, locals := 639 })).room s m (#[.ref (ad 0), .int a1]) below meth c H locs 0 0 (MQ below (va_Qi (fun (r : Int32) (_ : Unit) => r = r0) (fun (_ : Unit) t => wAt (dC, dI) A (wG (cM cy ad) ad 40 σ9) t) A) (#[.ref (ad 0), .int a1]) s 0 0 A) (F0 m 157 ls [.ref (ad 0)]) := by
    intro k45 hk45 σ x1 x2 H locs ls h hP hD hS hl
    unfold fX12_reads_157 at h
    refine lv_iconst (v := 1) hx hb dX12_reads_157 (by decide) ?_
    refine lv_goto (tgt := 162) hx hb dX12_reads_158 (by decide) ?_
    exact w162 _ hk45 σ x1 x2 1 H locs ls h hP hD hS hl
  have w109 : ∀ (k45 : S2 → Int32 → Int32 → Int32 → Option (Int32 × S2)) (hk45 : ∀ (σ : S2) (x1 : Int32) (x2 : Int32) (x3 : Int32) (H : Heap) (locs : List Loc) (ls : Array Slot), k45 σ x1 x2 x3 = some (r0, σ9) → va_P (dC, dI) vwCl (wG (cM cy ad) ad 40 σ) H → va_D A (wG (cM cy ad) ad 40 σ) → va_S A s.heap H locs → lv_has ls 7 [(0, .ref (ad 0)), (1, .int x1), (2, .int x2), (3, .int x3)] → W p l e (headSpec wsX12_reads ({ frames := 28, cells := 0, slots := 0, locals := 639 })).room s m (#[.ref (ad 0), .int a1]) below meth c H locs 0 0 (MQ below (va_Qi (fun (r : Int32) (_ : Unit) => r = r0) (fun (_ : Unit) t => wAt (dC, dI) A (wG (cM cy ad) ad 40 σ9) t) A) (#[.ref (ad 0), .int a1]) s 0 0 A) (F0 m 45 ls [])) , ∀ (σ : S2) (x1 : Int32) (x2 : Int32) (x4 : Int32) (x5 : Int32) (s0 : Int32) (H : Heap) (locs : List Loc) (ls : Array Slot), fX12_reads_109 k45 σ x1 x2 x4 x5 s0 = some (r0, σ9) → va_P (dC, dI) vwCl (wG (cM cy ad) ad 40 σ) H → va_D A (wG (cM cy ad) ad 40 σ) → va_S A s.heap H locs → lv_has ls 7 [(0, .ref (ad 0)), (1, .int x1), (2, .int x2), (4, .int x4), (5, .int x5)] → W p l e (headSpec wsX12_reads ({ frames := 28, cells := 0, slots := 0, locals := 639 })).room s m (#[.ref (ad 0), .int a1]) below meth c H locs 0 0 (MQ below (va_Qi (fun (r : Int32) (_ : Unit) => r = r0) (fun (_ : Unit) t => wAt (dC, dI) A (wG (cM cy ad) ad 40 σ9) t) A) (#[.ref (ad 0), .int a1]) s 0 0 A) (F0 m 109 ls [.int s0, .ref (ad 0)]) := by
    intro k45 hk45 σ x1 x2 x4 x5 s0 H locs ls h hP hD hS hl
    unfold fX12_reads_109 at h
    obtain ⟨⟨hnz14, hfz14⟩, h⟩ := zfS h
    refine ux_put (D := (dC, dI)) (ci := 12) (C := RX12) (T := TX12) (M := 59) (fs := (oM ad (σ.1 0))) hx hb hts (fun _ h9 => List.mem_cons_of_mem _ (List.mem_append_right _ h9)) tyX12 tyX12_ok nmX12 hown hK hP hD hS 0 (Nat.le_of_ble_eq_true rfl) rfl rfl 47 (by decide) (hts (.fieldLink RX12 183 "SeatsRoundModel" "isFaulty" "Z") (List.mem_of_getElem? (i := 4) rfl)) (fun _ h9 => h9) rfl (tyX12_ok 47 (by decide)) hnz14 hfz14 (Nat.le_of_ble_eq_true rfl) (oM_set_47 _ _ _ _ _) h dX12_reads_109 (fun σ13 H locs h hP hD hS => ?_)
    refine lv_iload_n hx hb dX12_reads_112 rfl (lv_at hl 2 rfl) ?_
    refine lv_iload hx hb dX12_reads_113 (lv_at hl 4 rfl) ?_
    refine lv_ior hx hb dX12_reads_115 ?_
    refine lv_topi (fun v15 ev15 => ?_)
    have h := nmS h ev15
    refine lv_istore_n (lv' := [(2, .int v15), (0, .ref (ad 0)), (1, .int x1), (4, .int x4), (5, .int x5)]) hx hb dX12_reads_116 rfl hl (by decide) rfl (fun ls hl => ?_)
    have hl := lv_sub hl [1, 2, 0, 3, 4] (l' := [(0, .ref (ad 0)), (1, .int x1), (2, .int v15), (4, .int x4), (5, .int x5)]) rfl
    refine lv_aload_n hx hb dX12_reads_117 rfl (lv_at hl 0 rfl) ?_
    refine lv_iload hx hb dX12_reads_118 (lv_at hl 3 rfl) ?_
    obtain ⟨r16, σ17, hf18, h⟩ := bsS h
    refine ux_callv (va_runV (As := [.int x4]) (rest := []) ⟨hx, hb, hml, hown, hts⟩ (tX12_eats l dC dI cy ad σ13 x4 H.size r16 σ17 hf18) (cwV 1 hts gX12_reads_X12_eats rfl rfl rfl (by decide +kernel) ⟨Nat.le_of_ble_eq_true rfl, Nat.le_of_ble_eq_true rfl⟩) (wp_V hK hN hP hD (va_recv hK hP (ci := 12) (q0 := 0) rfl (wG_of (Nat.le_of_ble_eq_true rfl) rfl))) rfl rfl hl.1 rfl (lv_room (Nat.le_of_ble_eq_true rfl)) dX12_reads_120 ⟨Nat.le_of_ble_eq_true rfl, Nat.le_of_ble_eq_true rfl⟩) hD hS hA (fun H locs hP hD hS => ?_)
    refine lv_aload_n hx hb dX12_reads_123 rfl (lv_at hl 0 rfl) ?_
    refine lv_bipush (v := 32) hx hb dX12_reads_124 (by decide) ?_
    obtain ⟨r19, σ20, hf21, h⟩ := bsS h
    refine ux_callv (va_runV (As := [.int 32]) (rest := []) ⟨hx, hb, hml, hown, hts⟩ (tX12_eats l dC dI cy ad σ17 32 H.size r19 σ20 hf21) (cwV 1 hts gX12_reads_X12_eats rfl rfl rfl (by decide +kernel) ⟨Nat.le_of_ble_eq_true rfl, Nat.le_of_ble_eq_true rfl⟩) (wp_V hK hN hP hD (va_recv hK hP (ci := 12) (q0 := 0) rfl (wG_of (Nat.le_of_ble_eq_true rfl) rfl))) rfl rfl hl.1 rfl (lv_room (Nat.le_of_ble_eq_true rfl)) dX12_reads_126 ⟨Nat.le_of_ble_eq_true rfl, Nat.le_of_ble_eq_true rfl⟩) hD hS hA (fun H locs hP hD hS => ?_)
    refine lv_iload hx hb dX12_reads_129 (lv_at hl 4 rfl) ?_
    refine lv_iconst (v := 4) hx hb dX12_reads_131 (by decide) ?_
    refine lv_icmp_ne (tgt := 213) hx hb dX12_reads_132 (by decide) (fun hcd => ?_) (fun hcd => ?_)
    · have h := cdN hcd h
      refine lv_aload_n hx hb dX12_reads_213 rfl (lv_at hl 0 rfl) ?_
      refine ux_get (D := (dC, dI)) (ci := 12) (v := .int (σ20.1 0 47)) (C := RX12) (T := TX12) (M := 59) (fs := (oM ad (σ20.1 0))) hx hb hts (fun _ h9 => List.mem_cons_of_mem _ (List.mem_append_right _ h9)) hown hK hP 0 (Nat.le_of_ble_eq_true rfl) rfl rfl 47 (by decide) (hts (.fieldLink RX12 183 "SeatsRoundModel" "isFaulty" "Z") (List.mem_of_getElem? (i := 4) rfl)) (fun _ h9 => h9) rfl dX12_reads_214 ?_
      refine lv_if_ne (tgt := 275) hx hb dX12_reads_217 (by decide) (fun hcd => ?_) (fun hcd => ?_)
      · have h := cdN hcd h
        exact w275 _ hk45 σ20 x1 v15 H locs ls h hP hD hS (lv_sub hl [0, 1, 2] rfl)
      · have h := cdP hcd h
        refine lv_aload_n hx hb dX12_reads_220 rfl (lv_at hl 0 rfl) ?_
        obtain ⟨r22, σ23, hf24, h⟩ := bsS h
        refine ux_calli (va_runV (As := []) (rest := []) ⟨hx, hb, hml, hown, hts⟩ (tX12_sum l dC dI cy ad σ20 H.size r22 σ23 hf24) (cwV 0 hts gX12_reads_X12_sum rfl rfl rfl (by decide +kernel) ⟨Nat.le_of_ble_eq_true rfl, Nat.le_of_ble_eq_true rfl⟩) (wp_V hK hN hP hD (va_recv hK hP (ci := 12) (q0 := 0) rfl (wG_of (Nat.le_of_ble_eq_true rfl) rfl))) rfl rfl hl.1 rfl (lv_room (Nat.le_of_ble_eq_true rfl)) dX12_reads_221 ⟨Nat.le_of_ble_eq_true rfl, Nat.le_of_ble_eq_true rfl⟩) hD hS hA (fun H locs hP hD hS => ?_)
        obtain ⟨r25, hf26, h⟩ := biS h
        refine ux_calli (va_runS (As := [.int r22]) (rest := []) ⟨hx, hb, hml, hown, hts⟩ (tX12_held l dC dI cy ad σ23 r22 H.size r25 hf26) (va_cwS 1 hts gX12_reads_X12_held rfl rfl rfl (by decide +kernel) ⟨Nat.le_of_ble_eq_true rfl, Nat.le_of_ble_eq_true rfl⟩) (wp_S hK hN hP hD) rfl rfl hl.1 rfl (lv_room (Nat.le_of_ble_eq_true rfl)) dX12_reads_224 ⟨Nat.le_of_ble_eq_true rfl, Nat.le_of_ble_eq_true rfl⟩) hD hS hA (fun H locs hP hD hS => ?_)
        refine lv_istore (lv' := [(6, .int r25), (0, .ref (ad 0)), (1, .int x1), (2, .int v15), (4, .int x4), (5, .int x5)]) hx hb dX12_reads_227 hl (by decide) rfl (fun ls hl => ?_)
        have hl := lv_sub hl [1, 2, 3, 4, 5, 0] (l' := [(0, .ref (ad 0)), (1, .int x1), (2, .int v15), (4, .int x4), (5, .int x5), (6, .int r25)]) rfl
        refine lv_aload_n hx hb dX12_reads_229 rfl (lv_at hl 0 rfl) ?_
        refine ux_get (D := (dC, dI)) (ci := 12) (v := .ref (ad 10)) (C := RX12) (T := TX12) (M := 59) (fs := (oM ad (σ23.1 0))) hx hb hts (fun _ h9 => List.mem_cons_of_mem _ (List.mem_append_right _ h9)) hown hK hP 0 (Nat.le_of_ble_eq_true rfl) rfl rfl 12 (by decide) (hts (.fieldLink RX12 38 "SeatsRoundModel" "copies" "[I") (List.mem_of_getElem? (i := 5) rfl)) (fun _ h9 => h9) rfl dX12_reads_230 ?_
        refine lv_iload_n hx hb dX12_reads_233 rfl (lv_at hl 1 rfl) ?_
        refine lv_iload hx hb dX12_reads_234 (lv_at hl 4 rfl) ?_
        refine lv_iconst (v := 1) hx hb dX12_reads_236 (by decide) ?_
        refine lv_icmp_ne (tgt := 245) hx hb dX12_reads_237 (by decide) (fun hcd => ?_) (fun hcd => ?_)
        · have h := cdN hcd h
          refine lv_aload_n hx hb dX12_reads_245 rfl (lv_at hl 0 rfl) ?_
          refine ux_get (D := (dC, dI)) (ci := 12) (v := .ref (ad 10)) (C := RX12) (T := TX12) (M := 59) (fs := (oM ad (σ23.1 0))) hx hb hts (fun _ h9 => List.mem_cons_of_mem _ (List.mem_append_right _ h9)) hown hK hP 0 (Nat.le_of_ble_eq_true rfl) rfl rfl 12 (by decide) (hts (.fieldLink RX12 38 "SeatsRoundModel" "copies" "[I") (List.mem_of_getElem? (i := 5) rfl)) (fun _ h9 => h9) rfl dX12_reads_246 ?_
          refine lv_iload_n hx hb dX12_reads_249 rfl (lv_at hl 1 rfl) ?_
          refine ux_iald hx hb hK hP 10 0 (Nat.le_of_ble_eq_true rfl) (cM_10 _ _ _ _) rfl h dX12_reads_250 (fun v27 h => ?_)
          exact w251 _ hk45 σ23 x1 v15 x5 r25 v27 x1 H locs ls h hP hD hS (lv_sub hl [0, 1, 2, 4, 5] rfl)
        · have h := cdP hcd h
          refine lv_iload hx hb dX12_reads_240 (lv_at hl 5 rfl) ?_
          refine lv_goto (tgt := 251) hx hb dX12_reads_242 (by decide) ?_
          exact w251 _ hk45 σ23 x1 v15 x5 r25 r25 x1 H locs ls h hP hD hS (lv_sub hl [0, 1, 2, 4, 5] rfl)
    · have h := cdP hcd h
      refine lv_aload_n hx hb dX12_reads_135 rfl (lv_at hl 0 rfl) ?_
      refine lv_aload_n hx hb dX12_reads_136 rfl (lv_at hl 0 rfl) ?_
      refine ux_get (D := (dC, dI)) (ci := 12) (v := .int (σ20.1 0 47)) (C := RX12) (T := TX12) (M := 59) (fs := (oM ad (σ20.1 0))) hx hb hts (fun _ h9 => List.mem_cons_of_mem _ (List.mem_append_right _ h9)) hown hK hP 0 (Nat.le_of_ble_eq_true rfl) rfl rfl 47 (by decide) (hts (.fieldLink RX12 183 "SeatsRoundModel" "isFaulty" "Z") (List.mem_of_getElem? (i := 4) rfl)) (fun _ h9 => h9) rfl dX12_reads_137 ?_
      refine lv_if_ne (tgt := 157) hx hb dX12_reads_140 (by decide) (fun hcd => ?_) (fun hcd => ?_)
      · have h := cdN hcd h
        exact w157 _ hk45 σ20 x1 v15 H locs ls h hP hD hS (lv_sub hl [0, 1, 2] rfl)
      · have h := cdP hcd h
        refine lv_aload_n hx hb dX12_reads_143 rfl (lv_at hl 0 rfl) ?_
        obtain ⟨r28, hf29, h⟩ := biS h
        refine ux_calli (va_runV (As := []) (rest := [.ref (ad 0)]) ⟨hx, hb, hml, hown, hts⟩ (tX12_here l dC dI cy ad σ20 H.size r28 hf29) (cwV 0 hts gX12_reads_X12_here rfl rfl rfl (by decide +kernel) ⟨Nat.le_of_ble_eq_true rfl, Nat.le_of_ble_eq_true rfl⟩) (wp_V hK hN hP hD (va_recv hK hP (ci := 12) (q0 := 0) rfl (wG_of (Nat.le_of_ble_eq_true rfl) rfl))) rfl rfl hl.1 rfl (lv_room (Nat.le_of_ble_eq_true rfl)) dX12_reads_144 ⟨Nat.le_of_ble_eq_true rfl, Nat.le_of_ble_eq_true rfl⟩) hD hS hA (fun H locs hP hD hS => ?_)
        refine lv_bipush (v := 48) hx hb dX12_reads_147 (by decide) ?_
        refine lv_bipush (v := 50) hx hb dX12_reads_149 (by decide) ?_
        obtain ⟨r30, hf31, h⟩ := biS h
        refine ux_calli (va_runS (As := [.int r28, .int 48, .int 50]) (rest := [.ref (ad 0)]) ⟨hx, hb, hml, hown, hts⟩ (tX12_in l dC dI cy ad σ20 r28 48 50 H.size r30 hf31) (va_cwS 3 hts gX12_reads_X12_in rfl rfl rfl (by decide +kernel) ⟨Nat.le_of_ble_eq_true rfl, Nat.le_of_ble_eq_true rfl⟩) (wp_S hK hN hP hD) rfl rfl hl.1 rfl (lv_room (Nat.le_of_ble_eq_true rfl)) dX12_reads_151 ⟨Nat.le_of_ble_eq_true rfl, Nat.le_of_ble_eq_true rfl⟩) hD hS hA (fun H locs hP hD hS => ?_)
        refine lv_if_ne (tgt := 161) hx hb dX12_reads_154 (by decide) (fun hcd => ?_) (fun hcd => ?_)
        · have h := cdN hcd h
          refine lv_iconst (v := 0) hx hb dX12_reads_161 (by decide) ?_
          exact w162 _ hk45 σ20 x1 v15 0 H locs ls h hP hD hS (lv_sub hl [0, 1, 2] rfl)
        · have h := cdP hcd h
          exact w157 _ hk45 σ20 x1 v15 H locs ls h hP hD hS (lv_sub hl [0, 1, 2] rfl)
  have w104 : ∀ (k45 : S2 → Int32 → Int32 → Int32 → Option (Int32 × S2)) (hk45 : ∀ (σ : S2) (x1 : Int32) (x2 : Int32) (x3 : Int32) (H : Heap) (locs : List Loc) (ls : Array Slot), k45 σ x1 x2 x3 = some (r0, σ9) → va_P (dC, dI) vwCl (wG (cM cy ad) ad 40 σ) H → va_D A (wG (cM cy ad) ad 40 σ) → va_S A s.heap H locs → lv_has ls 7 [(0, .ref (ad 0)), (1, .int x1), (2, .int x2), (3, .int x3)] → W p l e (headSpec wsX12_reads ({ frames := 28, cells := 0, slots := 0, locals := 639 })).room s m (#[.ref (ad 0), .int a1]) below meth c H locs 0 0 (MQ below (va_Qi (fun (r : Int32) (_ : Unit) => r = r0) (fun (_ : Unit) t => wAt (dC, dI) A (wG (cM cy ad) ad 40 σ9) t) A) (#[.ref (ad 0), .int a1]) s 0 0 A) (F0 m 45 ls [])) , ∀ (σ : S2) (x1 : Int32) (x2 : Int32) (x4 : Int32) (x5 : Int32) (H : Heap) (locs : List Loc) (ls : Array Slot), fX12_reads_104 k45 σ x1 x2 x4 x5 = some (r0, σ9) → va_P (dC, dI) vwCl (wG (cM cy ad) ad 40 σ) H → va_D A (wG (cM cy ad) ad 40 σ) → va_S A s.heap H locs → lv_has ls 7 [(0, .ref (ad 0)), (1, .int x1), (2, .int x2), (4, .int x4), (5, .int x5)] → W p l e (headSpec wsX12_reads ({ frames := 28, cells := 0, slots := 0, locals := 639 })).room s m (#[.ref (ad 0), .int a1]) below meth c H locs 0 0 (MQ below (va_Qi (fun (r : Int32) (_ : Unit) => r = r0) (fun (_ : Unit) t => wAt (dC, dI) A (wG (cM cy ad) ad 40 σ9) t) A) (#[.ref (ad 0), .int a1]) s 0 0 A) (F0 m 104 ls [.ref (ad 0)]) := by
    intro k45 hk45 σ x1 x2 x4 x5 H locs ls h hP hD hS hl
    unfold fX12_reads_104 at h
    refine lv_iconst (v := 1) hx hb dX12_reads_104 (by decide) ?_
    refine lv_goto (tgt := 109) hx hb dX12_reads_105 (by decide) ?_
    exact w109 _ hk45 σ x1 x2 x4 x5 1 H locs ls h hP hD hS hl
  have w89 : ∀ (k45 : S2 → Int32 → Int32 → Int32 → Option (Int32 × S2)) (hk45 : ∀ (σ : S2) (x1 : Int32) (x2 : Int32) (x3 : Int32) (H : Heap) (locs : List Loc) (ls : Array Slot), k45 σ x1 x2 x3 = some (r0, σ9) → va_P (dC, dI) vwCl (wG (cM cy ad) ad 40 σ) H → va_D A (wG (cM cy ad) ad 40 σ) → va_S A s.heap H locs → lv_has ls 7 [(0, .ref (ad 0)), (1, .int x1), (2, .int x2), (3, .int x3)] → W p l e (headSpec wsX12_reads ({ frames := 28, cells := 0, slots := 0, locals := 639 })).room s m (#[.ref (ad 0), .int a1]) below meth c H locs 0 0 (MQ below (va_Qi (fun (r : Int32) (_ : Unit) => r = r0) (fun (_ : Unit) t => wAt (dC, dI) A (wG (cM cy ad) ad 40 σ9) t) A) (#[.ref (ad 0), .int a1]) s 0 0 A) (F0 m 45 ls [])) , ∀ (σ : S2) (x1 : Int32) (x2 : Int32) (x4 : Int32) (s0 : Int32) (H : Heap) (locs : List Loc) (ls : Array Slot), fX12_reads_89 k45 σ x1 x2 x4 s0 = some (r0, σ9) → va_P (dC, dI) vwCl (wG (cM cy ad) ad 40 σ) H → va_D A (wG (cM cy ad) ad 40 σ) → va_S A s.heap H locs → lv_has ls 7 [(0, .ref (ad 0)), (1, .int x1), (2, .int x2), (4, .int x4)] → W p l e (headSpec wsX12_reads ({ frames := 28, cells := 0, slots := 0, locals := 639 })).room s m (#[.ref (ad 0), .int a1]) below meth c H locs 0 0 (MQ below (va_Qi (fun (r : Int32) (_ : Unit) => r = r0) (fun (_ : Unit) t => wAt (dC, dI) A (wG (cM cy ad) ad 40 σ9) t) A) (#[.ref (ad 0), .int a1]) s 0 0 A) (F0 m 89 ls [.int s0]) := by
    intro k45 hk45 σ x1 x2 x4 s0 H locs ls h hP hD hS hl
    unfold fX12_reads_89 at h
    refine lv_istore (lv' := [(5, .int s0), (0, .ref (ad 0)), (1, .int x1), (2, .int x2), (4, .int x4)]) hx hb dX12_reads_89 hl (by decide) rfl (fun ls hl => ?_)
    have hl := lv_sub hl [1, 2, 3, 4, 0] (l' := [(0, .ref (ad 0)), (1, .int x1), (2, .int x2), (4, .int x4), (5, .int s0)]) rfl
    refine lv_aload_n hx hb dX12_reads_91 rfl (lv_at hl 0 rfl) ?_
    refine lv_iload hx hb dX12_reads_92 (lv_at hl 4 rfl) ?_
    refine lv_if_eq (tgt := 104) hx hb dX12_reads_94 (by decide) (fun hcd => ?_) (fun hcd => ?_)
    · have h := cdP hcd h
      exact w104 _ hk45 σ x1 x2 x4 s0 H locs ls h hP hD hS hl
    · have h := cdN hcd h
      refine lv_iload_n hx hb dX12_reads_97 rfl (lv_at hl 2 rfl) ?_
      refine lv_iload hx hb dX12_reads_98 (lv_at hl 4 rfl) ?_
      refine lv_iand hx hb dX12_reads_100 ?_
      refine lv_if_eq (tgt := 108) hx hb dX12_reads_101 (by decide) (fun hcd => ?_) (fun hcd => ?_)
      · have h := cdP hcd h
        refine lv_iconst (v := 0) hx hb dX12_reads_108 (by decide) ?_
        exact w109 _ hk45 σ x1 x2 x4 s0 0 H locs ls h hP hD hS hl
      · have h := cdN hcd h
        exact w104 _ hk45 σ x1 x2 x4 s0 H locs ls h hP hD hS hl
  have w45 : ∀ (n : Nat), ∀ (σ : S2) (x1 : Int32) (x2 : Int32) (x3 : Int32) (H : Heap) (locs : List Loc) (ls : Array Slot), fX12_reads_45 n σ x1 x2 x3 = some (r0, σ9) → va_P (dC, dI) vwCl (wG (cM cy ad) ad 40 σ) H → va_D A (wG (cM cy ad) ad 40 σ) → va_S A s.heap H locs → lv_has ls 7 [(0, .ref (ad 0)), (1, .int x1), (2, .int x2), (3, .int x3)] → W p l e (headSpec wsX12_reads ({ frames := 28, cells := 0, slots := 0, locals := 639 })).room s m (#[.ref (ad 0), .int a1]) below meth c H locs 0 0 (MQ below (va_Qi (fun (r : Int32) (_ : Unit) => r = r0) (fun (_ : Unit) t => wAt (dC, dI) A (wG (cM cy ad) ad 40 σ9) t) A) (#[.ref (ad 0), .int a1]) s 0 0 A) (F0 m 45 ls []) := by
    intro n
    induction n with
    | zero => intro σ x1 x2 x3 H locs ls h; cases h
    | succ n ih =>
    intro σ x1 x2 x3 H locs ls h hP hD hS hl
    unfold fX12_reads_45 at h
    refine lv_iload_n hx hb dX12_reads_45 rfl (lv_at hl 3 rfl) ?_
    refine lv_if_eq (tgt := 318) hx hb dX12_reads_46 (by decide) (fun hcd => ?_) (fun hcd => ?_)
    · have h := cdP hcd h
      refine lv_aload_n hx hb dX12_reads_318 rfl (lv_at hl 0 rfl) ?_
      refine ux_get (D := (dC, dI)) (ci := 12) (v := .int (σ.1 0 47)) (C := RX12) (T := TX12) (M := 59) (fs := (oM ad (σ.1 0))) hx hb hts (fun _ h9 => List.mem_cons_of_mem _ (List.mem_append_right _ h9)) hown hK hP 0 (Nat.le_of_ble_eq_true rfl) rfl rfl 47 (by decide) (hts (.fieldLink RX12 183 "SeatsRoundModel" "isFaulty" "Z") (List.mem_of_getElem? (i := 4) rfl)) (fun _ h9 => h9) rfl dX12_reads_319 ?_
      refine lv_if_ne (tgt := 338) hx hb dX12_reads_322 (by decide) (fun hcd => ?_) (fun hcd => ?_)
      · have h := cdN hcd h
        exact w338 σ H locs ls h hP hD hS (lv_sub hl [0] rfl)
      · have h := cdP hcd h
        refine lv_aload_n hx hb dX12_reads_325 rfl (lv_at hl 0 rfl) ?_
        refine ux_get (D := (dC, dI)) (ci := 12) (v := .int (σ.1 0 45)) (C := RX12) (T := TX12) (M := 59) (fs := (oM ad (σ.1 0))) hx hb hts (fun _ h9 => List.mem_cons_of_mem _ (List.mem_append_right _ h9)) hown hK hP 0 (Nat.le_of_ble_eq_true rfl) rfl rfl 45 (by decide) (hts (.fieldLink RX12 177 "SeatsRoundModel" "at" "I") (List.mem_of_getElem? (i := 2) rfl)) (fun _ h9 => h9) rfl dX12_reads_326 ?_
        refine lv_aload_n hx hb dX12_reads_329 rfl (lv_at hl 0 rfl) ?_
        refine ux_get (D := (dC, dI)) (ci := 12) (v := .ref (ad 13)) (C := RX12) (T := TX12) (M := 59) (fs := (oM ad (σ.1 0))) hx hb hts (fun _ h9 => List.mem_cons_of_mem _ (List.mem_append_right _ h9)) hown hK hP 0 (Nat.le_of_ble_eq_true rfl) rfl rfl 15 (by decide) (hts (.fieldLink RX12 47 "SeatsRoundModel" "lawSize" "[I") (List.mem_of_getElem? (i := 8) rfl)) (fun _ h9 => h9) rfl dX12_reads_330 ?_
        refine lv_iload_n hx hb dX12_reads_333 rfl (lv_at hl 1 rfl) ?_
        refine ux_iald hx hb hK hP 13 0 (Nat.le_of_ble_eq_true rfl) (cM_13 _ _ _ _) rfl h dX12_reads_334 (fun v32 h => ?_)
        refine lv_icmp_eq (tgt := 345) hx hb dX12_reads_335 (by decide) (fun hcd => ?_) (fun hcd => ?_)
        · have h := cdP hcd h
          refine lv_iconst (v := (-1)) hx hb dX12_reads_345 (by decide) ?_
          exact ux_iret hx hb hr h hP hD hS hlocks dX12_reads_346
        · have h := cdN hcd h
          exact w338 σ H locs ls h hP hD hS (lv_sub hl [0] rfl)
    · have h := cdN hcd h
      refine lv_aload_n hx hb dX12_reads_49 rfl (lv_at hl 0 rfl) ?_
      obtain ⟨r33, hf34, h⟩ := biS h
      refine ux_calli (va_runV (As := []) (rest := []) ⟨hx, hb, hml, hown, hts⟩ (tX12_here l dC dI cy ad σ H.size r33 hf34) (cwV 0 hts gX12_reads_X12_here rfl rfl rfl (by decide +kernel) ⟨Nat.le_of_ble_eq_true rfl, Nat.le_of_ble_eq_true rfl⟩) (wp_V hK hN hP hD (va_recv hK hP (ci := 12) (q0 := 0) rfl (wG_of (Nat.le_of_ble_eq_true rfl) rfl))) rfl rfl hl.1 rfl (lv_room (Nat.le_of_ble_eq_true rfl)) dX12_reads_50 ⟨Nat.le_of_ble_eq_true rfl, Nat.le_of_ble_eq_true rfl⟩) hD hS hA (fun H locs hP hD hS => ?_)
      refine lv_istore (lv' := [(4, .int r33), (0, .ref (ad 0)), (1, .int x1), (2, .int x2), (3, .int x3)]) hx hb dX12_reads_53 hl (by decide) rfl (fun ls hl => ?_)
      have hl := lv_sub hl [1, 2, 3, 4, 0] (l' := [(0, .ref (ad 0)), (1, .int x1), (2, .int x2), (3, .int x3), (4, .int r33)]) rfl
      refine lv_iload hx hb dX12_reads_55 (lv_at hl 4 rfl) ?_
      refine lv_bipush (v := 99) hx hb dX12_reads_57 (by decide) ?_
      refine lv_icmp_ne (tgt := 66) hx hb dX12_reads_59 (by decide) (fun hcd => ?_) (fun hcd => ?_)
      · have h := cdN hcd h
        refine lv_iload hx hb dX12_reads_66 (lv_at hl 4 rfl) ?_
        refine lv_bipush (v := 115) hx hb dX12_reads_68 (by decide) ?_
        refine lv_icmp_ne (tgt := 77) hx hb dX12_reads_70 (by decide) (fun hcd => ?_) (fun hcd => ?_)
        · have h := cdN hcd h
          refine lv_iload hx hb dX12_reads_77 (lv_at hl 4 rfl) ?_
          refine lv_bipush (v := 112) hx hb dX12_reads_79 (by decide) ?_
          refine lv_icmp_ne (tgt := 88) hx hb dX12_reads_81 (by decide) (fun hcd => ?_) (fun hcd => ?_)
          · have h := cdN hcd h
            refine lv_iconst (v := 0) hx hb dX12_reads_88 (by decide) ?_
            exact w89 _ ih σ x1 x2 r33 0 H locs ls h hP hD hS (lv_sub hl [0, 1, 2, 4] rfl)
          · have h := cdP hcd h
            refine lv_iconst (v := 4) hx hb dX12_reads_84 (by decide) ?_
            refine lv_goto (tgt := 89) hx hb dX12_reads_85 (by decide) ?_
            exact w89 _ ih σ x1 x2 r33 4 H locs ls h hP hD hS (lv_sub hl [0, 1, 2, 4] rfl)
        · have h := cdP hcd h
          refine lv_iconst (v := 2) hx hb dX12_reads_73 (by decide) ?_
          refine lv_goto (tgt := 89) hx hb dX12_reads_74 (by decide) ?_
          exact w89 _ ih σ x1 x2 r33 2 H locs ls h hP hD hS (lv_sub hl [0, 1, 2, 4] rfl)
      · have h := cdP hcd h
        refine lv_iconst (v := 1) hx hb dX12_reads_62 (by decide) ?_
        refine lv_goto (tgt := 89) hx hb dX12_reads_63 (by decide) ?_
        exact w89 _ ih σ x1 x2 r33 1 H locs ls h hP hD hS (lv_sub hl [0, 1, 2, 4] rfl)
  have w0 : ∀ (σ : S2) (x1 : Int32) (H : Heap) (locs : List Loc) (ls : Array Slot), fX12_reads_0 σ x1 = some (r0, σ9) → va_P (dC, dI) vwCl (wG (cM cy ad) ad 40 σ) H → va_D A (wG (cM cy ad) ad 40 σ) → va_S A s.heap H locs → lv_has ls 7 [(0, .ref (ad 0)), (1, .int x1)] → W p l e (headSpec wsX12_reads ({ frames := 28, cells := 0, slots := 0, locals := 639 })).room s m (#[.ref (ad 0), .int a1]) below meth c H locs 0 0 (MQ below (va_Qi (fun (r : Int32) (_ : Unit) => r = r0) (fun (_ : Unit) t => wAt (dC, dI) A (wG (cM cy ad) ad 40 σ9) t) A) (#[.ref (ad 0), .int a1]) s 0 0 A) (F0 m 0 ls []) := by
    intro σ x1 H locs ls h hP hD hS hl
    unfold fX12_reads_0 at h
    refine lv_aload_n hx hb dX12_reads_0 rfl (lv_at hl 0 rfl) ?_
    refine lv_iload_n hx hb dX12_reads_1 rfl (lv_at hl 1 rfl) ?_
    refine ux_put (D := (dC, dI)) (ci := 12) (C := RX12) (T := TX12) (M := 59) (fs := (oM ad (σ.1 0))) hx hb hts (fun _ h9 => List.mem_cons_of_mem _ (List.mem_append_right _ h9)) tyX12 tyX12_ok nmX12 hown hK hP hD hS 0 (Nat.le_of_ble_eq_true rfl) rfl rfl 44 (by decide) (hts (.fieldLink RX12 180 "SeatsRoundModel" "lawTable" "I") (List.mem_of_getElem? (i := 1) rfl)) (fun _ h9 => h9) rfl (tyX12_ok 44 (by decide)) rfl rfl (Nat.le_of_ble_eq_true rfl) (oM_set_44 _ _ _ _ _) h dX12_reads_2 (fun σ35 H locs h hP hD hS => ?_)
    refine lv_aload_n hx hb dX12_reads_5 rfl (lv_at hl 0 rfl) ?_
    refine lv_iconst (v := 0) hx hb dX12_reads_6 (by decide) ?_
    refine ux_put (D := (dC, dI)) (ci := 12) (C := RX12) (T := TX12) (M := 59) (fs := (oM ad (σ35.1 0))) hx hb hts (fun _ h9 => List.mem_cons_of_mem _ (List.mem_append_right _ h9)) tyX12 tyX12_ok nmX12 hown hK hP hD hS 0 (Nat.le_of_ble_eq_true rfl) rfl rfl 45 (by decide) (hts (.fieldLink RX12 177 "SeatsRoundModel" "at" "I") (List.mem_of_getElem? (i := 2) rfl)) (fun _ h9 => h9) rfl (tyX12_ok 45 (by decide)) rfl rfl (Nat.le_of_ble_eq_true rfl) (oM_set_45 _ _ _ _ _) h dX12_reads_7 (fun σ36 H locs h hP hD hS => ?_)
    refine lv_aload_n hx hb dX12_reads_10 rfl (lv_at hl 0 rfl) ?_
    refine lv_iconst (v := 0) hx hb dX12_reads_11 (by decide) ?_
    refine ux_put (D := (dC, dI)) (ci := 12) (C := RX12) (T := TX12) (M := 59) (fs := (oM ad (σ36.1 0))) hx hb hts (fun _ h9 => List.mem_cons_of_mem _ (List.mem_append_right _ h9)) tyX12 tyX12_ok nmX12 hown hK hP hD hS 0 (Nat.le_of_ble_eq_true rfl) rfl rfl 46 (by decide) (hts (.fieldLink RX12 197 "SeatsRoundModel" "opens" "I") (List.mem_of_getElem? (i := 3) rfl)) (fun _ h9 => h9) rfl (tyX12_ok 46 (by decide)) rfl rfl (Nat.le_of_ble_eq_true rfl) (oM_set_46 _ _ _ _ _) h dX12_reads_12 (fun σ37 H locs h hP hD hS => ?_)
    refine lv_aload_n hx hb dX12_reads_15 rfl (lv_at hl 0 rfl) ?_
    refine lv_iconst (v := 0) hx hb dX12_reads_16 (by decide) ?_
    refine ux_put (D := (dC, dI)) (ci := 12) (C := RX12) (T := TX12) (M := 59) (fs := (oM ad (σ37.1 0))) hx hb hts (fun _ h9 => List.mem_cons_of_mem _ (List.mem_append_right _ h9)) tyX12 tyX12_ok nmX12 hown hK hP hD hS 0 (Nat.le_of_ble_eq_true rfl) rfl rfl 47 (by decide) (hts (.fieldLink RX12 183 "SeatsRoundModel" "isFaulty" "Z") (List.mem_of_getElem? (i := 4) rfl)) (fun _ h9 => h9) rfl (tyX12_ok 47 (by decide)) rfl rfl (Nat.le_of_ble_eq_true rfl) (oM_set_47 _ _ _ _ _) h dX12_reads_17 (fun σ38 H locs h hP hD hS => ?_)
    refine lv_aload_n hx hb dX12_reads_20 rfl (lv_at hl 0 rfl) ?_
    refine ux_get (D := (dC, dI)) (ci := 12) (v := .ref (ad 10)) (C := RX12) (T := TX12) (M := 59) (fs := (oM ad (σ38.1 0))) hx hb hts (fun _ h9 => List.mem_cons_of_mem _ (List.mem_append_right _ h9)) hown hK hP 0 (Nat.le_of_ble_eq_true rfl) rfl rfl 12 (by decide) (hts (.fieldLink RX12 38 "SeatsRoundModel" "copies" "[I") (List.mem_of_getElem? (i := 5) rfl)) (fun _ h9 => h9) rfl dX12_reads_21 ?_
    refine lv_iload_n hx hb dX12_reads_24 rfl (lv_at hl 1 rfl) ?_
    refine lv_iconst (v := 2) hx hb dX12_reads_25 (by decide) ?_
    refine ux_iast hx hb hK hP hD hS 10 0 (Nat.le_of_ble_eq_true rfl) (fun _ => (cM_10 _ _ _ _)) rfl h dX12_reads_26 (fun σ39 H locs h hP hD hS => ?_)
    refine lv_aload_n hx hb dX12_reads_27 rfl (lv_at hl 0 rfl) ?_
    refine ux_get (D := (dC, dI)) (ci := 12) (v := .ref (ad 11)) (C := RX12) (T := TX12) (M := 59) (fs := (oM ad (σ39.1 0))) hx hb hts (fun _ h9 => List.mem_cons_of_mem _ (List.mem_append_right _ h9)) hown hK hP 0 (Nat.le_of_ble_eq_true rfl) rfl rfl 13 (by decide) (hts (.fieldLink RX12 41 "SeatsRoundModel" "streets" "[I") (List.mem_of_getElem? (i := 6) rfl)) (fun _ h9 => h9) rfl dX12_reads_28 ?_
    refine lv_iload_n hx hb dX12_reads_31 rfl (lv_at hl 1 rfl) ?_
    refine lv_iconst (v := 1) hx hb dX12_reads_32 (by decide) ?_
    refine ux_iast hx hb hK hP hD hS 11 0 (Nat.le_of_ble_eq_true rfl) (fun _ => (cM_11 _ _ _ _)) rfl h dX12_reads_33 (fun σ40 H locs h hP hD hS => ?_)
    refine lv_aload_n hx hb dX12_reads_34 rfl (lv_at hl 0 rfl) ?_
    refine ux_get (D := (dC, dI)) (ci := 12) (v := .ref (ad 12)) (C := RX12) (T := TX12) (M := 59) (fs := (oM ad (σ40.1 0))) hx hb hts (fun _ h9 => List.mem_cons_of_mem _ (List.mem_append_right _ h9)) hown hK hP 0 (Nat.le_of_ble_eq_true rfl) rfl rfl 14 (by decide) (hts (.fieldLink RX12 44 "SeatsRoundModel" "picks" "[I") (List.mem_of_getElem? (i := 7) rfl)) (fun _ h9 => h9) rfl dX12_reads_35 ?_
    refine lv_iload_n hx hb dX12_reads_38 rfl (lv_at hl 1 rfl) ?_
    refine lv_iconst (v := 0) hx hb dX12_reads_39 (by decide) ?_
    refine ux_iast hx hb hK hP hD hS 12 0 (Nat.le_of_ble_eq_true rfl) (fun _ => (cM_12 _ _ _ _)) rfl h dX12_reads_40 (fun σ41 H locs h hP hD hS => ?_)
    refine lv_iconst (v := 0) hx hb dX12_reads_41 (by decide) ?_
    refine lv_istore_n (lv' := [(2, .int 0), (0, .ref (ad 0)), (1, .int x1)]) hx hb dX12_reads_42 rfl hl (by decide) rfl (fun ls hl => ?_)
    have hl := lv_sub hl [1, 2, 0] (l' := [(0, .ref (ad 0)), (1, .int x1), (2, .int 0)]) rfl
    refine lv_iconst (v := 1) hx hb dX12_reads_43 (by decide) ?_
    refine lv_istore_n (lv' := [(3, .int 1), (0, .ref (ad 0)), (1, .int x1), (2, .int 0)]) hx hb dX12_reads_44 rfl hl (by decide) rfl (fun ls hl => ?_)
    have hl := lv_sub hl [1, 2, 3, 0] (l' := [(0, .ref (ad 0)), (1, .int x1), (2, .int 0), (3, .int 1)]) rfl
    exact w45 FU σ41 x1 0 1 H locs ls h hP hD hS hl
  intro H locs ls h hP hD hS hl
  exact w0 σ a1 H locs ls h hP hD hS (lv_sub hl [0, 1] rfl)

set_option maxHeartbeats 4000000 in
set_option maxRecDepth 100000 in
theorem tX12_mixed (l : Launch) (dC : Nat → ClassId) (dI : Nat → Nat → Nat) (cy : Nat → ClassId) (ad : Nat → Nat) (σ : S2) (a0 : Int32) (a1 : Int32) (a2 : Int32) (sz : Nat) (r0 : Int32) (h : fX12_mixed σ a0 a1 a2 = some r0) : Met l yX12_mixed wsX12_mixed ({ frames := 1, cells := 0, slots := 0, locals := 23 }) (va_Pc [.int a0, .int a1, .int a2] (wPre (dC, dI) cy (wG (cM cy ad) ad 40 σ) sz)) (va_Qi (fun (r : Int32) (_ : Unit) => r = r0) (fun (_ : Unit) t => wAt (dC, dI) (va_A (wG (cM cy ad) ad 40 σ) sz) (wG (cM cy ad) ad 40 σ) t) (va_A (wG (cM cy ad) ad 40 σ) sz)) 0 0 (va_A (wG (cM cy ad) ad 40 σ) sz) := by
  refine Met.ofW (cc := cX12_mixed) (maxL := 3) (ret := (some .int)) (by decide) rfl ?_
  intro p e s m args below meth c s₁ B hml hv
  obtain ⟨rfl, hsz, hP, hK, hD0, hN⟩ := hv
  have hx := B.exec
  have hb := B.bytes
  have hr := B.returns
  have hts := atoms_spec (ws := wsX12_mixed) B.pre
  have hown : s.vm.findClass RX12 = some m.cls := findClass_of_methodNamed B.named
  have hlocks := B.notSynchronized
  subst hsz
  have hD := hD0.self (sz := s.heap.size)
  generalize hAe : va_A (wG (cM cy ad) ad 40 σ) s.heap.size = A at hD ⊢
  have hA : ∀ q : Nat, s.heap.size ≤ q → A q := fun q h => by rw [← hAe]; exact Or.inr h
  have hS : va_S A s.heap s.heap [] := va_S.rf
  have hl := lv_entry ([.int a0, .int a1, .int a2]) (n := 3) (Nat.le_of_ble_eq_true rfl)
  rw [lg_entry_eq]
  generalize (lg_sl ([.int a0, .int a1, .int a2]) ++ List.replicate (3 - (lg_sl ([.int a0, .int a1, .int a2])).length) Slot.unset).toArray = ls at hl ⊢
  have hl : lv_has ls 3 [(0, .int a0), (1, .int a1), (2, .int a2)] := hl
  unfold fX12_mixed at h
  clear hAe hD0
  suffices HH : ∀ (H : Heap) (locs : List Loc) (ls : Array Slot), fX12_mixed_0 σ a0 a1 a2 = some r0 → va_P (dC, dI) vwCl (wG (cM cy ad) ad 40 σ) H → va_D A (wG (cM cy ad) ad 40 σ) → va_S A s.heap H locs → lv_has ls 3 [(0, .int a0), (1, .int a1), (2, .int a2)] → W p l e (headSpec wsX12_mixed ({ frames := 1, cells := 0, slots := 0, locals := 23 })).room s m (#[.int a0, .int a1, .int a2]) below meth c H locs 0 0 (MQ below (va_Qi (fun (r : Int32) (_ : Unit) => r = r0) (fun (_ : Unit) t => wAt (dC, dI) A (wG (cM cy ad) ad 40 σ) t) A) (#[.int a0, .int a1, .int a2]) s 0 0 A) (F0 m 0 ls []) from HH s.heap [] ls h hP hD hS hl
  have w0 : ∀ (σ : S2) (x0 : Int32) (x1 : Int32) (x2 : Int32) (H : Heap) (locs : List Loc) (ls : Array Slot), fX12_mixed_0 σ x0 x1 x2 = some r0 → va_P (dC, dI) vwCl (wG (cM cy ad) ad 40 σ) H → va_D A (wG (cM cy ad) ad 40 σ) → va_S A s.heap H locs → lv_has ls 3 [(0, .int x0), (1, .int x1), (2, .int x2)] → W p l e (headSpec wsX12_mixed ({ frames := 1, cells := 0, slots := 0, locals := 23 })).room s m (#[.int a0, .int a1, .int a2]) below meth c H locs 0 0 (MQ below (va_Qi (fun (r : Int32) (_ : Unit) => r = r0) (fun (_ : Unit) t => wAt (dC, dI) A (wG (cM cy ad) ad 40 σ) t) A) (#[.int a0, .int a1, .int a2]) s 0 0 A) (F0 m 0 ls []) := by
    intro σ x0 x1 x2 H locs ls h hP hD hS hl
    unfold fX12_mixed_0 at h
    refine lv_iload_n hx hb dX12_mixed_0 rfl (lv_at hl 0 rfl) ?_
    refine lv_sipush (v := 7919) hx hb dX12_mixed_1 (by decide) ?_
    refine lv_imul hx hb dX12_mixed_4 ?_
    refine lv_iload_n hx hb dX12_mixed_5 rfl (lv_at hl 1 rfl) ?_
    refine lv_ldc hx hb hown (hts (.constant RX12 221 (104729)) (List.mem_of_getElem? (i := 1) rfl)) dX12_mixed_6 ?_
    refine lv_imul hx hb dX12_mixed_8 ?_
    refine lv_iadd hx hb dX12_mixed_9 ?_
    refine lv_iload_n hx hb dX12_mixed_10 rfl (lv_at hl 2 rfl) ?_
    change W _ _ _ _ _ _ _ _ _ _ _ _ _ _ _ (F0 m 11 ls [.int x2, .int ((x0 * 7919) + (x1 * 104729))])
    refine lv_iadd hx hb dX12_mixed_11 ?_
    refine lv_ldc hx hb hown (hts (.constant RX12 222 (1103515245)) (List.mem_of_getElem? (i := 2) rfl)) dX12_mixed_12 ?_
    refine lv_imul hx hb dX12_mixed_14 ?_
    refine lv_sipush (v := 12345) hx hb dX12_mixed_15 (by decide) ?_
    refine lv_iadd hx hb dX12_mixed_18 ?_
    refine lv_bipush (v := 8) hx hb dX12_mixed_19 (by decide) ?_
    refine lv_iushr hx hb dX12_mixed_21 rfl ?_
    refine lv_sipush (v := 1000) hx hb dX12_mixed_22 (by decide) ?_
    change W _ _ _ _ _ _ _ _ _ _ _ _ _ _ _ (F0 m 25 ls [.int 1000, .int (UInt32.toInt32 (Int32.toUInt32 (((((x0 * 7919) + (x1 * 104729)) + x2) * 1103515245) + 12345) >>> (Int32.toUInt32 8 &&& Int32.toUInt32 31)))])
    obtain ⟨hz1, h⟩ := dzS h
    refine lv_irem hx hb dX12_mixed_25 hz1 ?_
    exact ux_iretP hx hb hr h hP hD hS hlocks dX12_mixed_26
  intro H locs ls h hP hD hS hl
  exact w0 σ a0 a1 a2 H locs ls h hP hD hS (lv_sub hl [0, 1, 2] rfl)

set_option maxHeartbeats 4000000 in
set_option maxRecDepth 100000 in
theorem tX12_isIn (l : Launch) (dC : Nat → ClassId) (dI : Nat → Nat → Nat) (cy : Nat → ClassId) (ad : Nat → Nat) (σ : S2) (a1 : Int32) (a2 : Int32) (sz : Nat) (r0 : Int32) (h : fX12_isIn σ a1 a2 = some r0) : Met l yX12_isIn wsX12_isIn ({ frames := 1, cells := 0, slots := 0, locals := 23 }) (va_Pc [.ref (ad 0), .int a1, .int a2] (wPre (dC, dI) cy (wG (cM cy ad) ad 40 σ) sz)) (va_Qi (fun (r : Int32) (_ : Unit) => r = r0) (fun (_ : Unit) t => wAt (dC, dI) (va_A (wG (cM cy ad) ad 40 σ) sz) (wG (cM cy ad) ad 40 σ) t) (va_A (wG (cM cy ad) ad 40 σ) sz)) 0 0 (va_A (wG (cM cy ad) ad 40 σ) sz) := by
  refine Met.ofW (cc := cX12_isIn) (maxL := 3) (ret := (some .boolean)) (by decide) rfl ?_
  intro p e s m args below meth c s₁ B hml hv
  obtain ⟨rfl, hsz, hP, hK, hD0, hN⟩ := hv
  have hx := B.exec
  have hb := B.bytes
  have hr := B.returns
  have hts := atoms_spec (ws := wsX12_isIn) B.pre
  have hown : s.vm.findClass RX12 = some m.cls := findClass_of_methodNamed B.named
  have hlocks := B.notSynchronized
  subst hsz
  have hD := hD0.self (sz := s.heap.size)
  generalize hAe : va_A (wG (cM cy ad) ad 40 σ) s.heap.size = A at hD ⊢
  have hA : ∀ q : Nat, s.heap.size ≤ q → A q := fun q h => by rw [← hAe]; exact Or.inr h
  have hS : va_S A s.heap s.heap [] := va_S.rf
  have hl := lv_entry ([.ref (ad 0), .int a1, .int a2]) (n := 3) (Nat.le_of_ble_eq_true rfl)
  rw [lg_entry_eq]
  generalize (lg_sl ([.ref (ad 0), .int a1, .int a2]) ++ List.replicate (3 - (lg_sl ([.ref (ad 0), .int a1, .int a2])).length) Slot.unset).toArray = ls at hl ⊢
  have hl : lv_has ls 3 [(0, .ref (ad 0)), (1, .int a1), (2, .int a2)] := hl
  unfold fX12_isIn at h
  clear hAe hD0
  suffices HH : ∀ (H : Heap) (locs : List Loc) (ls : Array Slot), fX12_isIn_0 σ a1 a2 = some r0 → va_P (dC, dI) vwCl (wG (cM cy ad) ad 40 σ) H → va_D A (wG (cM cy ad) ad 40 σ) → va_S A s.heap H locs → lv_has ls 3 [(0, .ref (ad 0)), (1, .int a1), (2, .int a2)] → W p l e (headSpec wsX12_isIn ({ frames := 1, cells := 0, slots := 0, locals := 23 })).room s m (#[.ref (ad 0), .int a1, .int a2]) below meth c H locs 0 0 (MQ below (va_Qi (fun (r : Int32) (_ : Unit) => r = r0) (fun (_ : Unit) t => wAt (dC, dI) A (wG (cM cy ad) ad 40 σ) t) A) (#[.ref (ad 0), .int a1, .int a2]) s 0 0 A) (F0 m 0 ls []) from HH s.heap [] ls h hP hD hS hl
  have w0 : ∀ (σ : S2) (x1 : Int32) (x2 : Int32) (H : Heap) (locs : List Loc) (ls : Array Slot), fX12_isIn_0 σ x1 x2 = some r0 → va_P (dC, dI) vwCl (wG (cM cy ad) ad 40 σ) H → va_D A (wG (cM cy ad) ad 40 σ) → va_S A s.heap H locs → lv_has ls 3 [(0, .ref (ad 0)), (1, .int x1), (2, .int x2)] → W p l e (headSpec wsX12_isIn ({ frames := 1, cells := 0, slots := 0, locals := 23 })).room s m (#[.ref (ad 0), .int a1, .int a2]) below meth c H locs 0 0 (MQ below (va_Qi (fun (r : Int32) (_ : Unit) => r = r0) (fun (_ : Unit) t => wAt (dC, dI) A (wG (cM cy ad) ad 40 σ) t) A) (#[.ref (ad 0), .int a1, .int a2]) s 0 0 A) (F0 m 0 ls []) := by
    intro σ x1 x2 H locs ls h hP hD hS hl
    unfold fX12_isIn_0 at h
    refine lv_aload_n hx hb dX12_isIn_0 rfl (lv_at hl 0 rfl) ?_
    refine ux_get (D := (dC, dI)) (ci := 12) (v := .ref (ad 8)) (C := RX12) (T := TX12) (M := 59) (fs := (oM ad (σ.1 0))) hx hb hts (fun _ h9 => List.mem_cons_of_mem _ (List.mem_append_right _ h9)) hown hK hP 0 (Nat.le_of_ble_eq_true rfl) rfl rfl 10 (by decide) (hts (.fieldLink RX12 32 "SeatsRoundModel" "tableOf" "[I") (List.mem_of_getElem? (i := 1) rfl)) (fun _ h9 => h9) rfl dX12_isIn_1 ?_
    refine lv_iload_n hx hb dX12_isIn_4 rfl (lv_at hl 1 rfl) ?_
    refine ux_iald hx hb hK hP 8 0 (Nat.le_of_ble_eq_true rfl) (cM_8 _ _ _ _) rfl h dX12_isIn_5 (fun v1 h => ?_)
    refine lv_iload_n hx hb dX12_isIn_6 rfl (lv_at hl 2 rfl) ?_
    refine lv_ishr hx hb dX12_isIn_7 ?_
    refine lv_iconst (v := 1) hx hb dX12_isIn_8 (by decide) ?_
    refine lv_iand hx hb dX12_isIn_9 ?_
    refine lv_iconst (v := 1) hx hb dX12_isIn_10 (by decide) ?_
    refine lv_icmp_ne (tgt := 18) hx hb dX12_isIn_11 (by decide) (fun hcd => ?_) (fun hcd => ?_)
    · have h := cdN hcd h
      refine lv_iconst (v := 0) hx hb dX12_isIn_18 (by decide) ?_
      exact ux_zretP hx hb hr rfl h hP hD hS hlocks dX12_isIn_19
    · have h := cdP hcd h
      refine lv_iconst (v := 1) hx hb dX12_isIn_14 (by decide) ?_
      refine lv_goto (tgt := 19) hx hb dX12_isIn_15 (by decide) ?_
      exact ux_zretP hx hb hr rfl h hP hD hS hlocks dX12_isIn_19
  intro H locs ls h hP hD hS hl
  exact w0 σ a1 a2 H locs ls h hP hD hS (lv_sub hl [0, 1, 2] rfl)

set_option maxHeartbeats 4000000 in
set_option maxRecDepth 100000 in
theorem tX12_numbers (l : Launch) (dC : Nat → ClassId) (dI : Nat → Nat → Nat) (cy : Nat → ClassId) (ad : Nat → Nat) (σ : S2) (a1 : Int32) (sz : Nat) (r0 : Unit) (σ9 : S2) (h : fX12_numbers σ a1 = some (r0, σ9)) : Met l yX12_numbers wsX12_numbers ({ frames := 2, cells := 0, slots := 0, locals := 45 }) (va_Pc [.ref (ad 0), .int a1] (wPre (dC, dI) cy (wG (cM cy ad) ad 40 σ) sz)) (va_Qv (fun (_ : Unit) => True) (fun (_ : Unit) t => wAt (dC, dI) (va_A (wG (cM cy ad) ad 40 σ) sz) (wG (cM cy ad) ad 40 σ9) t) (va_A (wG (cM cy ad) ad 40 σ) sz)) 0 0 (va_A (wG (cM cy ad) ad 40 σ) sz) := by
  refine Met.ofW (cc := cX12_numbers) (maxL := 5) (ret := none) (by decide) rfl ?_
  intro p e s m args below meth c s₁ B hml hv
  obtain ⟨rfl, hsz, hP, hK, hD0, hN⟩ := hv
  have hx := B.exec
  have hb := B.bytes
  have hr := B.returns
  have hts := atoms_spec (ws := wsX12_numbers) B.pre
  have hown : s.vm.findClass RX12 = some m.cls := findClass_of_methodNamed B.named
  have hlocks := B.notSynchronized
  subst hsz
  have hD := hD0.self (sz := s.heap.size)
  generalize hAe : va_A (wG (cM cy ad) ad 40 σ) s.heap.size = A at hD ⊢
  have hA : ∀ q : Nat, s.heap.size ≤ q → A q := fun q h => by rw [← hAe]; exact Or.inr h
  have hS : va_S A s.heap s.heap [] := va_S.rf
  have hl := lv_entry ([.ref (ad 0), .int a1]) (n := 5) (Nat.le_of_ble_eq_true rfl)
  rw [lg_entry_eq]
  generalize (lg_sl ([.ref (ad 0), .int a1]) ++ List.replicate (5 - (lg_sl ([.ref (ad 0), .int a1])).length) Slot.unset).toArray = ls at hl ⊢
  have hl : lv_has ls 5 [(0, .ref (ad 0)), (1, .int a1)] := hl
  unfold fX12_numbers at h
  clear hAe hD0
  suffices HH : ∀ (H : Heap) (locs : List Loc) (ls : Array Slot), fX12_numbers_0 σ a1 = some (r0, σ9) → va_P (dC, dI) vwCl (wG (cM cy ad) ad 40 σ) H → va_D A (wG (cM cy ad) ad 40 σ) → va_S A s.heap H locs → lv_has ls 5 [(0, .ref (ad 0)), (1, .int a1)] → W p l e (headSpec wsX12_numbers ({ frames := 2, cells := 0, slots := 0, locals := 45 })).room s m (#[.ref (ad 0), .int a1]) below meth c H locs 0 0 (MQ below (va_Qv (fun (_ : Unit) => True) (fun (_ : Unit) t => wAt (dC, dI) A (wG (cM cy ad) ad 40 σ9) t) A) (#[.ref (ad 0), .int a1]) s 0 0 A) (F0 m 0 ls []) from HH s.heap [] ls h hP hD hS hl
  have w145 : ∀ (k24 : S2 → Int32 → Int32 → Int32 → Option (Unit × S2)) (hk24 : ∀ (σ : S2) (x1 : Int32) (x2 : Int32) (x3 : Int32) (H : Heap) (locs : List Loc) (ls : Array Slot), k24 σ x1 x2 x3 = some (r0, σ9) → va_P (dC, dI) vwCl (wG (cM cy ad) ad 40 σ) H → va_D A (wG (cM cy ad) ad 40 σ) → va_S A s.heap H locs → lv_has ls 5 [(0, .ref (ad 0)), (1, .int x1), (2, .int x2), (3, .int x3)] → W p l e (headSpec wsX12_numbers ({ frames := 2, cells := 0, slots := 0, locals := 45 })).room s m (#[.ref (ad 0), .int a1]) below meth c H locs 0 0 (MQ below (va_Qv (fun (_ : Unit) => True) (fun (_ : Unit) t => wAt (dC, dI) A (wG (cM cy ad) ad 40 σ9) t) A) (#[.ref (ad 0), .int a1]) s 0 0 A) (F0 m 24 ls [])) , ∀ (σ : S2) (x1 : Int32) (x2 : Int32) (x3 : Int32) (H : Heap) (locs : List Loc) (ls : Array Slot), fX12_numbers_145 k24 σ x1 x2 x3 = some (r0, σ9) → va_P (dC, dI) vwCl (wG (cM cy ad) ad 40 σ) H → va_D A (wG (cM cy ad) ad 40 σ) → va_S A s.heap H locs → lv_has ls 5 [(0, .ref (ad 0)), (1, .int x1), (2, .int x2), (3, .int x3)] → W p l e (headSpec wsX12_numbers ({ frames := 2, cells := 0, slots := 0, locals := 45 })).room s m (#[.ref (ad 0), .int a1]) below meth c H locs 0 0 (MQ below (va_Qv (fun (_ : Unit) => True) (fun (_ : Unit) t => wAt (dC, dI) A (wG (cM cy ad) ad 40 σ9) t) A) (#[.ref (ad 0), .int a1]) s 0 0 A) (F0 m 145 ls []) := by
    intro k24 hk24 σ x1 x2 x3 H locs ls h hP hD hS hl
    unfold fX12_numbers_145 at h
    obtain ⟨v1, ev1⟩ : ∃ y : Int32, y = x3 + 1 := ⟨_, rfl⟩
    have h := nmS h ev1
    refine lv_iinc (v := v1) (lv' := [(3, .int v1), (0, .ref (ad 0)), (1, .int x1), (2, .int x2)]) hx hb dX12_numbers_145 hl (k := 3) rfl (by rw [ev1]; rfl) (by decide) rfl (fun ls hl => ?_)
    have hl := lv_sub hl [1, 2, 3, 0] (l' := [(0, .ref (ad 0)), (1, .int x1), (2, .int x2), (3, .int v1)]) rfl
    refine lv_goto (tgt := 24) hx hb dX12_numbers_148 (by decide) ?_
    exact hk24 σ x1 x2 v1 H locs ls h hP hD hS hl
  have w142 : ∀ (k24 : S2 → Int32 → Int32 → Int32 → Option (Unit × S2)) (hk24 : ∀ (σ : S2) (x1 : Int32) (x2 : Int32) (x3 : Int32) (H : Heap) (locs : List Loc) (ls : Array Slot), k24 σ x1 x2 x3 = some (r0, σ9) → va_P (dC, dI) vwCl (wG (cM cy ad) ad 40 σ) H → va_D A (wG (cM cy ad) ad 40 σ) → va_S A s.heap H locs → lv_has ls 5 [(0, .ref (ad 0)), (1, .int x1), (2, .int x2), (3, .int x3)] → W p l e (headSpec wsX12_numbers ({ frames := 2, cells := 0, slots := 0, locals := 45 })).room s m (#[.ref (ad 0), .int a1]) below meth c H locs 0 0 (MQ below (va_Qv (fun (_ : Unit) => True) (fun (_ : Unit) t => wAt (dC, dI) A (wG (cM cy ad) ad 40 σ9) t) A) (#[.ref (ad 0), .int a1]) s 0 0 A) (F0 m 24 ls [])) , ∀ (σ : S2) (x1 : Int32) (x2 : Int32) (x3 : Int32) (s0 : Int32) (H : Heap) (locs : List Loc) (ls : Array Slot), fX12_numbers_142 k24 σ x1 x2 x3 s0 = some (r0, σ9) → va_P (dC, dI) vwCl (wG (cM cy ad) ad 40 σ) H → va_D A (wG (cM cy ad) ad 40 σ) → va_S A s.heap H locs → lv_has ls 5 [(0, .ref (ad 0)), (1, .int x1), (2, .int x2), (3, .int x3)] → W p l e (headSpec wsX12_numbers ({ frames := 2, cells := 0, slots := 0, locals := 45 })).room s m (#[.ref (ad 0), .int a1]) below meth c H locs 0 0 (MQ below (va_Qv (fun (_ : Unit) => True) (fun (_ : Unit) t => wAt (dC, dI) A (wG (cM cy ad) ad 40 σ9) t) A) (#[.ref (ad 0), .int a1]) s 0 0 A) (F0 m 142 ls [.int s0, .ref (ad 0)]) := by
    intro k24 hk24 σ x1 x2 x3 s0 H locs ls h hP hD hS hl
    unfold fX12_numbers_142 at h
    refine ux_put (D := (dC, dI)) (ci := 12) (C := RX12) (T := TX12) (M := 59) (fs := (oM ad (σ.1 0))) hx hb hts (fun _ h9 => List.mem_cons_of_mem _ (List.mem_append_right _ h9)) tyX12 tyX12_ok nmX12 hown hK hP hD hS 0 (Nat.le_of_ble_eq_true rfl) rfl rfl 51 (by decide) (hts (.fieldLink RX12 215 "SeatsRoundModel" "nowX" "I") (List.mem_of_getElem? (i := 4) rfl)) (fun _ h9 => h9) rfl (tyX12_ok 51 (by decide)) rfl rfl (Nat.le_of_ble_eq_true rfl) (oM_set_51 _ _ _ _ _) h dX12_numbers_142 (fun σ2 H locs h hP hD hS => ?_)
    exact w145 _ hk24 σ2 x1 x2 x3 H locs ls h hP hD hS hl
  have w92 : ∀ (k24 : S2 → Int32 → Int32 → Int32 → Option (Unit × S2)) (hk24 : ∀ (σ : S2) (x1 : Int32) (x2 : Int32) (x3 : Int32) (H : Heap) (locs : List Loc) (ls : Array Slot), k24 σ x1 x2 x3 = some (r0, σ9) → va_P (dC, dI) vwCl (wG (cM cy ad) ad 40 σ) H → va_D A (wG (cM cy ad) ad 40 σ) → va_S A s.heap H locs → lv_has ls 5 [(0, .ref (ad 0)), (1, .int x1), (2, .int x2), (3, .int x3)] → W p l e (headSpec wsX12_numbers ({ frames := 2, cells := 0, slots := 0, locals := 45 })).room s m (#[.ref (ad 0), .int a1]) below meth c H locs 0 0 (MQ below (va_Qv (fun (_ : Unit) => True) (fun (_ : Unit) t => wAt (dC, dI) A (wG (cM cy ad) ad 40 σ9) t) A) (#[.ref (ad 0), .int a1]) s 0 0 A) (F0 m 24 ls [])) , ∀ (σ : S2) (x1 : Int32) (x2 : Int32) (x3 : Int32) (x4 : Int32) (s0 : Int32) (s1 : Int32) (H : Heap) (locs : List Loc) (ls : Array Slot), fX12_numbers_92 k24 σ x1 x2 x3 x4 s0 s1 = some (r0, σ9) → va_P (dC, dI) vwCl (wG (cM cy ad) ad 40 σ) H → va_D A (wG (cM cy ad) ad 40 σ) → va_S A s.heap H locs → lv_has ls 5 [(0, .ref (ad 0)), (1, .int x1), (2, .int x2), (3, .int x3), (4, .int x4)] → W p l e (headSpec wsX12_numbers ({ frames := 2, cells := 0, slots := 0, locals := 45 })).room s m (#[.ref (ad 0), .int a1]) below meth c H locs 0 0 (MQ below (va_Qv (fun (_ : Unit) => True) (fun (_ : Unit) t => wAt (dC, dI) A (wG (cM cy ad) ad 40 σ9) t) A) (#[.ref (ad 0), .int a1]) s 0 0 A) (F0 m 92 ls [.int s0, .int s1, .ref (ad 0)]) := by
    intro k24 hk24 σ x1 x2 x3 x4 s0 s1 H locs ls h hP hD hS hl
    unfold fX12_numbers_92 at h
    refine lv_iadd hx hb dX12_numbers_92 ?_
    refine ux_put (D := (dC, dI)) (ci := 12) (C := RX12) (T := TX12) (M := 59) (fs := (oM ad (σ.1 0))) hx hb hts (fun _ h9 => List.mem_cons_of_mem _ (List.mem_append_right _ h9)) tyX12 tyX12_ok nmX12 hown hK hP hD hS 0 (Nat.le_of_ble_eq_true rfl) rfl rfl 49 (by decide) (hts (.fieldLink RX12 209 "SeatsRoundModel" "nowU" "I") (List.mem_of_getElem? (i := 2) rfl)) (fun _ h9 => h9) rfl (tyX12_ok 49 (by decide)) rfl rfl (Nat.le_of_ble_eq_true rfl) (oM_set_49 _ _ _ _ _) h dX12_numbers_93 (fun σ3 H locs h hP hD hS => ?_)
    refine lv_iload_n hx hb dX12_numbers_96 rfl (lv_at hl 2 rfl) ?_
    refine lv_iconst (v := 1) hx hb dX12_numbers_97 (by decide) ?_
    refine lv_aload_n hx hb dX12_numbers_98 rfl (lv_at hl 0 rfl) ?_
    refine ux_get (D := (dC, dI)) (ci := 12) (v := .ref (ad 16)) (C := RX12) (T := TX12) (M := 59) (fs := (oM ad (σ3.1 0))) hx hb hts (fun _ h9 => List.mem_cons_of_mem _ (List.mem_append_right _ h9)) hown hK hP 0 (Nat.le_of_ble_eq_true rfl) rfl rfl 18 (by decide) (hts (.fieldLink RX12 56 "SeatsRoundModel" "streetIn" "[I") (List.mem_of_getElem? (i := 7) rfl)) (fun _ h9 => h9) rfl dX12_numbers_99 ?_
    refine lv_bipush (v := 12) hx hb dX12_numbers_102 (by decide) ?_
    refine lv_iload_n hx hb dX12_numbers_104 rfl (lv_at hl 1 rfl) ?_
    refine lv_imul hx hb dX12_numbers_105 ?_
    refine lv_iload_n hx hb dX12_numbers_106 rfl (lv_at hl 3 rfl) ?_
    change W _ _ _ _ _ _ _ _ _ _ _ _ _ _ _ (F0 m 107 ls [.int x3, .int (12 * x1), .ref (ad 16), .int 1, .int x2])
    refine lv_iadd hx hb dX12_numbers_107 ?_
    refine ux_iald hx hb hK hP 16 0 (Nat.le_of_ble_eq_true rfl) (cM_16 _ _ _ _) rfl h dX12_numbers_108 (fun v4 h => ?_)
    refine lv_ishl hx hb dX12_numbers_109 ?_
    refine lv_ior hx hb dX12_numbers_110 ?_
    refine lv_topi (fun v5 ev5 => ?_)
    have h := nmS h ev5
    refine lv_istore_n (lv' := [(2, .int v5), (0, .ref (ad 0)), (1, .int x1), (3, .int x3), (4, .int x4)]) hx hb dX12_numbers_111 rfl hl (by decide) rfl (fun ls hl => ?_)
    have hl := lv_sub hl [1, 2, 0, 3, 4] (l' := [(0, .ref (ad 0)), (1, .int x1), (2, .int v5), (3, .int x3), (4, .int x4)]) rfl
    refine lv_aload_n hx hb dX12_numbers_112 rfl (lv_at hl 0 rfl) ?_
    refine lv_dup hx hb dX12_numbers_113 rfl ?_
    refine ux_get (D := (dC, dI)) (ci := 12) (v := .int (σ3.1 0 50)) (C := RX12) (T := TX12) (M := 59) (fs := (oM ad (σ3.1 0))) hx hb hts (fun _ h9 => List.mem_cons_of_mem _ (List.mem_append_right _ h9)) hown hK hP 0 (Nat.le_of_ble_eq_true rfl) rfl rfl 50 (by decide) (hts (.fieldLink RX12 212 "SeatsRoundModel" "nowT" "I") (List.mem_of_getElem? (i := 3) rfl)) (fun _ h9 => h9) rfl dX12_numbers_114 ?_
    refine lv_iload hx hb dX12_numbers_117 (lv_at hl 4 rfl) ?_
    refine lv_iadd hx hb dX12_numbers_119 ?_
    refine ux_put (D := (dC, dI)) (ci := 12) (C := RX12) (T := TX12) (M := 59) (fs := (oM ad (σ3.1 0))) hx hb hts (fun _ h9 => List.mem_cons_of_mem _ (List.mem_append_right _ h9)) tyX12 tyX12_ok nmX12 hown hK hP hD hS 0 (Nat.le_of_ble_eq_true rfl) rfl rfl 50 (by decide) (hts (.fieldLink RX12 212 "SeatsRoundModel" "nowT" "I") (List.mem_of_getElem? (i := 3) rfl)) (fun _ h9 => h9) rfl (tyX12_ok 50 (by decide)) rfl rfl (Nat.le_of_ble_eq_true rfl) (oM_set_50 _ _ _ _ _) h dX12_numbers_120 (fun σ6 H locs h hP hD hS => ?_)
    refine lv_aload_n hx hb dX12_numbers_123 rfl (lv_at hl 0 rfl) ?_
    refine lv_iload hx hb dX12_numbers_124 (lv_at hl 4 rfl) ?_
    refine lv_aload_n hx hb dX12_numbers_126 rfl (lv_at hl 0 rfl) ?_
    refine ux_get (D := (dC, dI)) (ci := 12) (v := .int (σ6.1 0 51)) (C := RX12) (T := TX12) (M := 59) (fs := (oM ad (σ6.1 0))) hx hb hts (fun _ h9 => List.mem_cons_of_mem _ (List.mem_append_right _ h9)) hown hK hP 0 (Nat.le_of_ble_eq_true rfl) rfl rfl 51 (by decide) (hts (.fieldLink RX12 215 "SeatsRoundModel" "nowX" "I") (List.mem_of_getElem? (i := 4) rfl)) (fun _ h9 => h9) rfl dX12_numbers_127 ?_
    refine lv_icmp_le (tgt := 138) hx hb dX12_numbers_130 (by decide) (fun hcd => ?_) (fun hcd => ?_)
    · have h := cdP hcd h
      refine lv_aload_n hx hb dX12_numbers_138 rfl (lv_at hl 0 rfl) ?_
      refine ux_get (D := (dC, dI)) (ci := 12) (v := .int (σ6.1 0 51)) (C := RX12) (T := TX12) (M := 59) (fs := (oM ad (σ6.1 0))) hx hb hts (fun _ h9 => List.mem_cons_of_mem _ (List.mem_append_right _ h9)) hown hK hP 0 (Nat.le_of_ble_eq_true rfl) rfl rfl 51 (by decide) (hts (.fieldLink RX12 215 "SeatsRoundModel" "nowX" "I") (List.mem_of_getElem? (i := 4) rfl)) (fun _ h9 => h9) rfl dX12_numbers_139 ?_
      exact w142 _ hk24 σ6 x1 v5 x3 (σ6.1 0 51) H locs ls h hP hD hS (lv_sub hl [0, 1, 2, 3] rfl)
    · have h := cdN hcd h
      refine lv_iload hx hb dX12_numbers_133 (lv_at hl 4 rfl) ?_
      refine lv_goto (tgt := 142) hx hb dX12_numbers_135 (by decide) ?_
      exact w142 _ hk24 σ6 x1 v5 x3 x4 H locs ls h hP hD hS (lv_sub hl [0, 1, 2, 3] rfl)
  have w24 : ∀ (n : Nat), ∀ (σ : S2) (x1 : Int32) (x2 : Int32) (x3 : Int32) (H : Heap) (locs : List Loc) (ls : Array Slot), fX12_numbers_24 n σ x1 x2 x3 = some (r0, σ9) → va_P (dC, dI) vwCl (wG (cM cy ad) ad 40 σ) H → va_D A (wG (cM cy ad) ad 40 σ) → va_S A s.heap H locs → lv_has ls 5 [(0, .ref (ad 0)), (1, .int x1), (2, .int x2), (3, .int x3)] → W p l e (headSpec wsX12_numbers ({ frames := 2, cells := 0, slots := 0, locals := 45 })).room s m (#[.ref (ad 0), .int a1]) below meth c H locs 0 0 (MQ below (va_Qv (fun (_ : Unit) => True) (fun (_ : Unit) t => wAt (dC, dI) A (wG (cM cy ad) ad 40 σ9) t) A) (#[.ref (ad 0), .int a1]) s 0 0 A) (F0 m 24 ls []) := by
    intro n
    induction n with
    | zero => intro σ x1 x2 x3 H locs ls h; cases h
    | succ n ih =>
    intro σ x1 x2 x3 H locs ls h hP hD hS hl
    unfold fX12_numbers_24 at h
    refine lv_iload_n hx hb dX12_numbers_24 rfl (lv_at hl 3 rfl) ?_
    refine lv_aload_n hx hb dX12_numbers_25 rfl (lv_at hl 0 rfl) ?_
    refine ux_get (D := (dC, dI)) (ci := 12) (v := .int (σ.1 0 3)) (C := RX12) (T := TX12) (M := 59) (fs := (oM ad (σ.1 0))) hx hb hts (fun _ h9 => List.mem_cons_of_mem _ (List.mem_append_right _ h9)) hown hK hP 0 (Nat.le_of_ble_eq_true rfl) rfl rfl 3 (by decide) (hts (.fieldLink RX12 140 "SeatsRoundModel" "keepers" "I") (List.mem_of_getElem? (i := 5) rfl)) (fun _ h9 => h9) rfl dX12_numbers_26 ?_
    refine lv_icmp_ge (tgt := 151) hx hb dX12_numbers_29 (by decide) (fun hcd => ?_) (fun hcd => ?_)
    · have h := cdP hcd h
      exact ux_vret hx hb hr h hP hD hS hlocks dX12_numbers_151
    · have h := cdN hcd h
      refine lv_aload_n hx hb dX12_numbers_32 rfl (lv_at hl 0 rfl) ?_
      refine lv_iload_n hx hb dX12_numbers_33 rfl (lv_at hl 1 rfl) ?_
      refine lv_iload_n hx hb dX12_numbers_34 rfl (lv_at hl 3 rfl) ?_
      obtain ⟨r7, hf8, h⟩ := biS h
      refine ux_calli (va_runV (As := [.int x1, .int x3]) (rest := []) ⟨hx, hb, hml, hown, hts⟩ (tX12_isIn l dC dI cy ad σ x1 x3 H.size r7 hf8) (cwV 2 hts gX12_numbers_X12_isIn rfl rfl rfl (by decide +kernel) ⟨Nat.le_of_ble_eq_true rfl, Nat.le_of_ble_eq_true rfl⟩) (wp_V hK hN hP hD (va_recv hK hP (ci := 12) (q0 := 0) rfl (wG_of (Nat.le_of_ble_eq_true rfl) rfl))) rfl rfl hl.1 rfl (lv_room (Nat.le_of_ble_eq_true rfl)) dX12_numbers_35 ⟨Nat.le_of_ble_eq_true rfl, Nat.le_of_ble_eq_true rfl⟩) hD hS hA (fun H locs hP hD hS => ?_)
      refine lv_if_eq (tgt := 145) hx hb dX12_numbers_38 (by decide) (fun hcd => ?_) (fun hcd => ?_)
      · have h := cdP hcd h
        exact w145 _ ih σ x1 x2 x3 H locs ls h hP hD hS hl
      · have h := cdN hcd h
        refine lv_aload_n hx hb dX12_numbers_41 rfl (lv_at hl 0 rfl) ?_
        refine ux_get (D := (dC, dI)) (ci := 12) (v := .ref (ad 15)) (C := RX12) (T := TX12) (M := 59) (fs := (oM ad (σ.1 0))) hx hb hts (fun _ h9 => List.mem_cons_of_mem _ (List.mem_append_right _ h9)) hown hK hP 0 (Nat.le_of_ble_eq_true rfl) rfl rfl 17 (by decide) (hts (.fieldLink RX12 53 "SeatsRoundModel" "counts" "[I") (List.mem_of_getElem? (i := 6) rfl)) (fun _ h9 => h9) rfl dX12_numbers_42 ?_
        refine lv_bipush (v := 12) hx hb dX12_numbers_45 (by decide) ?_
        refine lv_iload_n hx hb dX12_numbers_47 rfl (lv_at hl 1 rfl) ?_
        refine lv_imul hx hb dX12_numbers_48 ?_
        refine lv_iload_n hx hb dX12_numbers_49 rfl (lv_at hl 3 rfl) ?_
        refine lv_iadd hx hb dX12_numbers_50 ?_
        refine ux_iald hx hb hK hP 15 0 (Nat.le_of_ble_eq_true rfl) (cM_15 _ _ _ _) rfl h dX12_numbers_51 (fun v9 h => ?_)
        change W _ _ _ _ _ _ _ _ _ _ _ _ _ _ _ (F0 m 52 ls [.int v9])
        refine lv_istore (lv' := [(4, .int v9), (0, .ref (ad 0)), (1, .int x1), (2, .int x2), (3, .int x3)]) hx hb dX12_numbers_52 hl (by decide) rfl (fun ls hl => ?_)
        have hl := lv_sub hl [1, 2, 3, 4, 0] (l' := [(0, .ref (ad 0)), (1, .int x1), (2, .int x2), (3, .int x3), (4, .int v9)]) rfl
        refine lv_aload_n hx hb dX12_numbers_54 rfl (lv_at hl 0 rfl) ?_
        refine lv_dup hx hb dX12_numbers_55 rfl ?_
        refine ux_get (D := (dC, dI)) (ci := 12) (v := .int (σ.1 0 48)) (C := RX12) (T := TX12) (M := 59) (fs := (oM ad (σ.1 0))) hx hb hts (fun _ h9 => List.mem_cons_of_mem _ (List.mem_append_right _ h9)) hown hK hP 0 (Nat.le_of_ble_eq_true rfl) rfl rfl 48 (by decide) (hts (.fieldLink RX12 206 "SeatsRoundModel" "nowN" "I") (List.mem_of_getElem? (i := 1) rfl)) (fun _ h9 => h9) rfl dX12_numbers_56 ?_
        refine lv_iconst (v := 1) hx hb dX12_numbers_59 (by decide) ?_
        refine lv_iadd hx hb dX12_numbers_60 ?_
        refine ux_put (D := (dC, dI)) (ci := 12) (C := RX12) (T := TX12) (M := 59) (fs := (oM ad (σ.1 0))) hx hb hts (fun _ h9 => List.mem_cons_of_mem _ (List.mem_append_right _ h9)) tyX12 tyX12_ok nmX12 hown hK hP hD hS 0 (Nat.le_of_ble_eq_true rfl) rfl rfl 48 (by decide) (hts (.fieldLink RX12 206 "SeatsRoundModel" "nowN" "I") (List.mem_of_getElem? (i := 1) rfl)) (fun _ h9 => h9) rfl (tyX12_ok 48 (by decide)) rfl rfl (Nat.le_of_ble_eq_true rfl) (oM_set_48 _ _ _ _ _) h dX12_numbers_61 (fun σ10 H locs h hP hD hS => ?_)
        refine lv_aload_n hx hb dX12_numbers_64 rfl (lv_at hl 0 rfl) ?_
        refine lv_dup hx hb dX12_numbers_65 rfl ?_
        refine ux_get (D := (dC, dI)) (ci := 12) (v := .int (σ10.1 0 49)) (C := RX12) (T := TX12) (M := 59) (fs := (oM ad (σ10.1 0))) hx hb hts (fun _ h9 => List.mem_cons_of_mem _ (List.mem_append_right _ h9)) hown hK hP 0 (Nat.le_of_ble_eq_true rfl) rfl rfl 49 (by decide) (hts (.fieldLink RX12 209 "SeatsRoundModel" "nowU" "I") (List.mem_of_getElem? (i := 2) rfl)) (fun _ h9 => h9) rfl dX12_numbers_66 ?_
        refine lv_iload_n hx hb dX12_numbers_69 rfl (lv_at hl 2 rfl) ?_
        refine lv_aload_n hx hb dX12_numbers_70 rfl (lv_at hl 0 rfl) ?_
        refine ux_get (D := (dC, dI)) (ci := 12) (v := .ref (ad 16)) (C := RX12) (T := TX12) (M := 59) (fs := (oM ad (σ10.1 0))) hx hb hts (fun _ h9 => List.mem_cons_of_mem _ (List.mem_append_right _ h9)) hown hK hP 0 (Nat.le_of_ble_eq_true rfl) rfl rfl 18 (by decide) (hts (.fieldLink RX12 56 "SeatsRoundModel" "streetIn" "[I") (List.mem_of_getElem? (i := 7) rfl)) (fun _ h9 => h9) rfl dX12_numbers_71 ?_
        refine lv_bipush (v := 12) hx hb dX12_numbers_74 (by decide) ?_
        refine lv_iload_n hx hb dX12_numbers_76 rfl (lv_at hl 1 rfl) ?_
        change W _ _ _ _ _ _ _ _ _ _ _ _ _ _ _ (F0 m 77 ls [.int x1, .int 12, .ref (ad 16), .int x2, .int (σ10.1 0 49), .ref (ad 0)])
        refine lv_imul hx hb dX12_numbers_77 ?_
        refine lv_iload_n hx hb dX12_numbers_78 rfl (lv_at hl 3 rfl) ?_
        refine lv_iadd hx hb dX12_numbers_79 ?_
        refine ux_iald hx hb hK hP 16 0 (Nat.le_of_ble_eq_true rfl) (cM_16 _ _ _ _) rfl h dX12_numbers_80 (fun v11 h => ?_)
        refine lv_ishr hx hb dX12_numbers_81 ?_
        refine lv_iconst (v := 1) hx hb dX12_numbers_82 (by decide) ?_
        refine lv_iand hx hb dX12_numbers_83 ?_
        refine lv_if_ne (tgt := 91) hx hb dX12_numbers_84 (by decide) (fun hcd => ?_) (fun hcd => ?_)
        · have h := cdN hcd h
          refine lv_iconst (v := 0) hx hb dX12_numbers_91 (by decide) ?_
          exact w92 _ ih σ10 x1 x2 x3 v9 0 (σ10.1 0 49) H locs ls h hP hD hS hl
        · have h := cdP hcd h
          refine lv_iconst (v := 1) hx hb dX12_numbers_87 (by decide) ?_
          refine lv_goto (tgt := 92) hx hb dX12_numbers_88 (by decide) ?_
          exact w92 _ ih σ10 x1 x2 x3 v9 1 (σ10.1 0 49) H locs ls h hP hD hS hl
  have w0 : ∀ (σ : S2) (x1 : Int32) (H : Heap) (locs : List Loc) (ls : Array Slot), fX12_numbers_0 σ x1 = some (r0, σ9) → va_P (dC, dI) vwCl (wG (cM cy ad) ad 40 σ) H → va_D A (wG (cM cy ad) ad 40 σ) → va_S A s.heap H locs → lv_has ls 5 [(0, .ref (ad 0)), (1, .int x1)] → W p l e (headSpec wsX12_numbers ({ frames := 2, cells := 0, slots := 0, locals := 45 })).room s m (#[.ref (ad 0), .int a1]) below meth c H locs 0 0 (MQ below (va_Qv (fun (_ : Unit) => True) (fun (_ : Unit) t => wAt (dC, dI) A (wG (cM cy ad) ad 40 σ9) t) A) (#[.ref (ad 0), .int a1]) s 0 0 A) (F0 m 0 ls []) := by
    intro σ x1 H locs ls h hP hD hS hl
    unfold fX12_numbers_0 at h
    refine lv_aload_n hx hb dX12_numbers_0 rfl (lv_at hl 0 rfl) ?_
    refine lv_iconst (v := 0) hx hb dX12_numbers_1 (by decide) ?_
    refine ux_put (D := (dC, dI)) (ci := 12) (C := RX12) (T := TX12) (M := 59) (fs := (oM ad (σ.1 0))) hx hb hts (fun _ h9 => List.mem_cons_of_mem _ (List.mem_append_right _ h9)) tyX12 tyX12_ok nmX12 hown hK hP hD hS 0 (Nat.le_of_ble_eq_true rfl) rfl rfl 48 (by decide) (hts (.fieldLink RX12 206 "SeatsRoundModel" "nowN" "I") (List.mem_of_getElem? (i := 1) rfl)) (fun _ h9 => h9) rfl (tyX12_ok 48 (by decide)) rfl rfl (Nat.le_of_ble_eq_true rfl) (oM_set_48 _ _ _ _ _) h dX12_numbers_2 (fun σ12 H locs h hP hD hS => ?_)
    refine lv_aload_n hx hb dX12_numbers_5 rfl (lv_at hl 0 rfl) ?_
    refine lv_iconst (v := 0) hx hb dX12_numbers_6 (by decide) ?_
    refine ux_put (D := (dC, dI)) (ci := 12) (C := RX12) (T := TX12) (M := 59) (fs := (oM ad (σ12.1 0))) hx hb hts (fun _ h9 => List.mem_cons_of_mem _ (List.mem_append_right _ h9)) tyX12 tyX12_ok nmX12 hown hK hP hD hS 0 (Nat.le_of_ble_eq_true rfl) rfl rfl 49 (by decide) (hts (.fieldLink RX12 209 "SeatsRoundModel" "nowU" "I") (List.mem_of_getElem? (i := 2) rfl)) (fun _ h9 => h9) rfl (tyX12_ok 49 (by decide)) rfl rfl (Nat.le_of_ble_eq_true rfl) (oM_set_49 _ _ _ _ _) h dX12_numbers_7 (fun σ13 H locs h hP hD hS => ?_)
    refine lv_aload_n hx hb dX12_numbers_10 rfl (lv_at hl 0 rfl) ?_
    refine lv_iconst (v := 0) hx hb dX12_numbers_11 (by decide) ?_
    refine ux_put (D := (dC, dI)) (ci := 12) (C := RX12) (T := TX12) (M := 59) (fs := (oM ad (σ13.1 0))) hx hb hts (fun _ h9 => List.mem_cons_of_mem _ (List.mem_append_right _ h9)) tyX12 tyX12_ok nmX12 hown hK hP hD hS 0 (Nat.le_of_ble_eq_true rfl) rfl rfl 50 (by decide) (hts (.fieldLink RX12 212 "SeatsRoundModel" "nowT" "I") (List.mem_of_getElem? (i := 3) rfl)) (fun _ h9 => h9) rfl (tyX12_ok 50 (by decide)) rfl rfl (Nat.le_of_ble_eq_true rfl) (oM_set_50 _ _ _ _ _) h dX12_numbers_12 (fun σ14 H locs h hP hD hS => ?_)
    refine lv_aload_n hx hb dX12_numbers_15 rfl (lv_at hl 0 rfl) ?_
    refine lv_iconst (v := 0) hx hb dX12_numbers_16 (by decide) ?_
    refine ux_put (D := (dC, dI)) (ci := 12) (C := RX12) (T := TX12) (M := 59) (fs := (oM ad (σ14.1 0))) hx hb hts (fun _ h9 => List.mem_cons_of_mem _ (List.mem_append_right _ h9)) tyX12 tyX12_ok nmX12 hown hK hP hD hS 0 (Nat.le_of_ble_eq_true rfl) rfl rfl 51 (by decide) (hts (.fieldLink RX12 215 "SeatsRoundModel" "nowX" "I") (List.mem_of_getElem? (i := 4) rfl)) (fun _ h9 => h9) rfl (tyX12_ok 51 (by decide)) rfl rfl (Nat.le_of_ble_eq_true rfl) (oM_set_51 _ _ _ _ _) h dX12_numbers_17 (fun σ15 H locs h hP hD hS => ?_)
    refine lv_iconst (v := 0) hx hb dX12_numbers_20 (by decide) ?_
    refine lv_istore_n (lv' := [(2, .int 0), (0, .ref (ad 0)), (1, .int x1)]) hx hb dX12_numbers_21 rfl hl (by decide) rfl (fun ls hl => ?_)
    have hl := lv_sub hl [1, 2, 0] (l' := [(0, .ref (ad 0)), (1, .int x1), (2, .int 0)]) rfl
    refine lv_iconst (v := 0) hx hb dX12_numbers_22 (by decide) ?_
    refine lv_istore_n (lv' := [(3, .int 0), (0, .ref (ad 0)), (1, .int x1), (2, .int 0)]) hx hb dX12_numbers_23 rfl hl (by decide) rfl (fun ls hl => ?_)
    have hl := lv_sub hl [1, 2, 3, 0] (l' := [(0, .ref (ad 0)), (1, .int x1), (2, .int 0), (3, .int 0)]) rfl
    exact w24 FU σ15 x1 0 0 H locs ls h hP hD hS hl
  intro H locs ls h hP hD hS hl
  exact w0 σ a1 H locs ls h hP hD hS (lv_sub hl [0, 1] rfl)

