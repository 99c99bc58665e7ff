set_option maxHeartbeats 4000000 in
set_option maxRecDepth 100000 in
theorem tX11_knows (l : Launch) (dC : Nat → ClassId) (dI : Nat → Nat → Nat) (cy : Nat → ClassId) (ad : Nat → Nat) (τ nb : Nat) (hτ : τ < nb) (σ : S2) (a1 : Int32) (a2 : Int32) (sz : Nat) (r0 : Int32) (σ9 : S2) (h : fX11_knows τ σ a1 a2 = some (r0, σ9)) : Met l yX11_knows wsX11_knows ({ frames := 2, cells := 0, slots := 0, locals := 44 }) (va_Pc [.ref (ad 0), .int a1, .int a2] (wPre (dC, dI) cy (wG (cC cy ad τ) ad (182 + 6 * nb) σ) sz)) (va_Qi (fun (r : Int32) (_ : Unit) => r = r0) (fun (_ : Unit) t => wAt (dC, dI) (va_A (wG (cC cy ad τ) ad (182 + 6 * nb) σ) sz) (wG (cC cy ad τ) ad (182 + 6 * nb) σ9) t) (va_A (wG (cC cy ad τ) ad (182 + 6 * nb) σ) sz)) 0 0 (va_A (wG (cC cy ad τ) ad (182 + 6 * nb) σ) sz) := by
  refine Met.ofW (cc := cX11_knows) (maxL := 4) (ret := (some .int)) (by decide) rfl ?_
  intro p e s m args below meth c s₁ B hml hv
  obtain ⟨rfl, hsz, hP, hK, hD0, hN⟩ := hv
  have hx := B.exec
  have hb := B.bytes
  have hr := B.returns
  have hts := atoms_spec (ws := wsX11_knows) B.pre
  have hown : s.vm.findClass RX11 = some m.cls := findClass_of_methodNamed B.named
  have hlocks := B.notSynchronized
  subst hsz
  have hD := hD0.self (sz := s.heap.size)
  generalize hAe : va_A (wG (cC cy ad τ) ad (182 + 6 * nb) σ) s.heap.size = A at hD ⊢
  have hA : ∀ q : Nat, s.heap.size ≤ q → A q := fun q h => by rw [← hAe]; exact Or.inr h
  have hS : va_S A s.heap s.heap [] := va_S.rf
  have hl := lv_entry ([.ref (ad 0), .int a1, .int a2]) (n := 4) (Nat.le_of_ble_eq_true rfl)
  rw [lg_entry_eq]
  generalize (lg_sl ([.ref (ad 0), .int a1, .int a2]) ++ List.replicate (4 - (lg_sl ([.ref (ad 0), .int a1, .int a2])).length) Slot.unset).toArray = ls at hl ⊢
  have hl : lv_has ls 4 [(0, .ref (ad 0)), (1, .int a1), (2, .int a2)] := hl
  unfold fX11_knows at h
  clear hAe hD0
  suffices HH : ∀ (H : Heap) (locs : List Loc) (ls : Array Slot), fX11_knows_0 τ σ a1 a2 = some (r0, σ9) → va_P (dC, dI) vwCl (wG (cC cy ad τ) ad (182 + 6 * nb) σ) H → va_D A (wG (cC cy ad τ) ad (182 + 6 * nb) σ) → va_S A s.heap H locs → lv_has ls 4 [(0, .ref (ad 0)), (1, .int a1), (2, .int a2)] → W p l e (headSpec wsX11_knows ({ frames := 2, cells := 0, slots := 0, locals := 44 })).room s m (#[.ref (ad 0), .int a1, .int a2]) below meth c H locs 0 0 (MQ below (va_Qi (fun (r : Int32) (_ : Unit) => r = r0) (fun (_ : Unit) t => wAt (dC, dI) A (wG (cC cy ad τ) ad (182 + 6 * nb) σ9) t) A) (#[.ref (ad 0), .int a1, .int a2]) s 0 0 A) (F0 m 0 ls []) from HH s.heap [] ls h hP hD hS hl
  have w0 : ∀ (σ : S2) (x1 : Int32) (x2 : Int32) (H : Heap) (locs : List Loc) (ls : Array Slot), fX11_knows_0 τ σ x1 x2 = some (r0, σ9) → va_P (dC, dI) vwCl (wG (cC cy ad τ) ad (182 + 6 * nb) σ) H → va_D A (wG (cC cy ad τ) ad (182 + 6 * nb) σ) → va_S A s.heap H locs → lv_has ls 4 [(0, .ref (ad 0)), (1, .int x1), (2, .int x2)] → W p l e (headSpec wsX11_knows ({ frames := 2, cells := 0, slots := 0, locals := 44 })).room s m (#[.ref (ad 0), .int a1, .int a2]) below meth c H locs 0 0 (MQ below (va_Qi (fun (r : Int32) (_ : Unit) => r = r0) (fun (_ : Unit) t => wAt (dC, dI) A (wG (cC cy ad τ) ad (182 + 6 * nb) σ9) t) A) (#[.ref (ad 0), .int a1, .int a2]) s 0 0 A) (F0 m 0 ls []) := by
    intro σ x1 x2 H locs ls h hP hD hS hl
    unfold fX11_knows_0 at h
    refine lv_aload_n hx hb dX11_knows_0 rfl (lv_at hl 0 rfl) ?_
    refine ux_get (D := (dC, dI)) (ci := 11) (v := .ref (ad 7)) (C := RX11) (T := TX11) (M := 13) (fs := (oSR ad (σ.1 0))) hx hb hts (fun _ h9 => List.mem_cons_of_mem _ (List.mem_append_left _ (List.mem_append_right _ h9))) hown hK hP 0 (Nat.lt_of_lt_of_le (Nat.le_of_ble_eq_true rfl : 0 < 182) (Nat.le_add_right _ _)) (cC_0 _ _ _ _ _) rfl 2 (by decide) (hts (.fieldLink RX11 26 "SeatsRound" "keepers" "LSeatsRound$Keepers;") (List.mem_of_getElem? (i := 1) rfl)) (fun _ h9 => h9) rfl dX11_knows_1 ?_
    refine lv_iload_n hx hb dX11_knows_4 rfl (lv_at hl 1 rfl) ?_
    obtain ⟨r1, hf2, h⟩ := biS h
    refine ux_calli (va_runV (As := [.int x1]) (rest := []) ⟨hx, hb, hml, hown, hts⟩ (tX2_has l dC dI cy ad τ nb hτ σ x1 H.size r1 hf2) (cwV 1 hts gX11_knows_X2_has rfl rfl rfl (by decide +kernel) ⟨Nat.le_of_ble_eq_true rfl, Nat.le_of_ble_eq_true rfl⟩) (wp_V hK hN hP hD (va_recv hK hP (ci := 2) (q0 := 7) rfl (wG_of (Nat.lt_of_lt_of_le (Nat.le_of_ble_eq_true rfl : 7 < 182) (Nat.le_add_right _ _)) (cC_7 _ _ _ _ _)))) rfl rfl hl.1 rfl (lv_room (Nat.le_of_ble_eq_true rfl)) dX11_knows_5 ⟨Nat.le_of_ble_eq_true rfl, Nat.le_of_ble_eq_true rfl⟩) hD hS hA (fun H locs hP hD hS => ?_)
    refine lv_if_eq (tgt := 24) hx hb dX11_knows_8 (by decide) (fun hcd => ?_) (fun hcd => ?_)
    · have h := cdP hcd h
      refine lv_ldc hx hb hown (hts (.constant RX11 152 (-2000000000)) (List.mem_of_getElem? (i := 3) rfl)) dX11_knows_24 ?_
      exact ux_iret hx hb hr h hP hD hS hlocks dX11_knows_26
    · have h := cdN hcd h
      refine lv_iload_n hx hb dX11_knows_11 rfl (lv_at hl 2 rfl) ?_
      refine lv_iconst (v := (-1)) hx hb dX11_knows_12 (by decide) ?_
      refine lv_icmp_lt (tgt := 24) hx hb dX11_knows_13 (by decide) (fun hcd => ?_) (fun hcd => ?_)
      · have h := cdP hcd h
        refine lv_ldc hx hb hown (hts (.constant RX11 152 (-2000000000)) (List.mem_of_getElem? (i := 3) rfl)) dX11_knows_24 ?_
        exact ux_iret hx hb hr h hP hD hS hlocks dX11_knows_26
      · have h := cdN hcd h
        refine lv_iload_n hx hb dX11_knows_16 rfl (lv_at hl 2 rfl) ?_
        refine lv_aload_n hx hb dX11_knows_17 rfl (lv_at hl 0 rfl) ?_
        refine ux_get (D := (dC, dI)) (ci := 11) (v := .int (σ.1 0 6)) (C := RX11) (T := TX11) (M := 13) (fs := (oSR ad (σ.1 0))) hx hb hts (fun _ h9 => List.mem_cons_of_mem _ (List.mem_append_left _ (List.mem_append_right _ h9))) hown hK hP 0 (Nat.lt_of_lt_of_le (Nat.le_of_ble_eq_true rfl : 0 < 182) (Nat.le_add_right _ _)) (cC_0 _ _ _ _ _) rfl 6 (by decide) (hts (.fieldLink RX11 52 "SeatsRound" "tableCount" "I") (List.mem_of_getElem? (i := 2) rfl)) (fun _ h9 => h9) rfl dX11_knows_18 ?_
        refine lv_icmp_lt (tgt := 27) hx hb dX11_knows_21 (by decide) (fun hcd => ?_) (fun hcd => ?_)
        · have h := cdP hcd h
          refine lv_aload_n hx hb dX11_knows_27 rfl (lv_at hl 0 rfl) ?_
          refine ux_get (D := (dC, dI)) (ci := 11) (v := .ref (ad 7)) (C := RX11) (T := TX11) (M := 13) (fs := (oSR ad (σ.1 0))) hx hb hts (fun _ h9 => List.mem_cons_of_mem _ (List.mem_append_left _ (List.mem_append_right _ h9))) hown hK hP 0 (Nat.lt_of_lt_of_le (Nat.le_of_ble_eq_true rfl : 0 < 182) (Nat.le_add_right _ _)) (cC_0 _ _ _ _ _) rfl 2 (by decide) (hts (.fieldLink RX11 26 "SeatsRound" "keepers" "LSeatsRound$Keepers;") (List.mem_of_getElem? (i := 1) rfl)) (fun _ h9 => h9) rfl dX11_knows_28 ?_
          refine ux_get (D := (dC, dI)) (ci := 2) (v := .ref (ad 11)) (C := RX2) (T := TX2) (M := 6) (fs := (oKP ad (σ.1 7))) hx hb hts (fun _ h9 => List.mem_cons_of_mem _ (List.mem_append_right _ h9)) hown hK hP 7 (Nat.lt_of_lt_of_le (Nat.le_of_ble_eq_true rfl : 7 < 182) (Nat.le_add_right _ _)) (cC_7 _ _ _ _ _) rfl 3 (by decide) (hts (.fieldLink RX11 160 "SeatsRound$Keepers" "table" "[I") (List.mem_of_getElem? (i := 4) rfl)) (fun _ h9 => h9) rfl dX11_knows_31 ?_
          refine lv_iload_n hx hb dX11_knows_34 rfl (lv_at hl 1 rfl) ?_
          refine ux_iald hx hb hK hP 11 0 (Nat.lt_of_lt_of_le (Nat.le_of_ble_eq_true rfl : 11 < 182) (Nat.le_add_right _ _)) (cC_11 _ _ _ _ _) rfl h dX11_knows_35 (fun v3 h => ?_)
          refine lv_istore_n (lv' := [(3, .int v3), (0, .ref (ad 0)), (1, .int x1), (2, .int x2)]) hx hb dX11_knows_36 rfl hl (by decide) rfl (fun ls hl => ?_)
          have hl := lv_sub hl [1, 2, 3, 0] (l' := [(0, .ref (ad 0)), (1, .int x1), (2, .int x2), (3, .int v3)]) rfl
          refine lv_aload_n hx hb dX11_knows_37 rfl (lv_at hl 0 rfl) ?_
          refine ux_get (D := (dC, dI)) (ci := 11) (v := .ref (ad 7)) (C := RX11) (T := TX11) (M := 13) (fs := (oSR ad (σ.1 0))) hx hb hts (fun _ h9 => List.mem_cons_of_mem _ (List.mem_append_left _ (List.mem_append_right _ h9))) hown hK hP 0 (Nat.lt_of_lt_of_le (Nat.le_of_ble_eq_true rfl : 0 < 182) (Nat.le_add_right _ _)) (cC_0 _ _ _ _ _) rfl 2 (by decide) (hts (.fieldLink RX11 26 "SeatsRound" "keepers" "LSeatsRound$Keepers;") (List.mem_of_getElem? (i := 1) rfl)) (fun _ h9 => h9) rfl dX11_knows_38 ?_
          refine ux_get (D := (dC, dI)) (ci := 2) (v := .ref (ad 11)) (C := RX2) (T := TX2) (M := 6) (fs := (oKP ad (σ.1 7))) hx hb hts (fun _ h9 => List.mem_cons_of_mem _ (List.mem_append_right _ h9)) hown hK hP 7 (Nat.lt_of_lt_of_le (Nat.le_of_ble_eq_true rfl : 7 < 182) (Nat.le_add_right _ _)) (cC_7 _ _ _ _ _) rfl 3 (by decide) (hts (.fieldLink RX11 160 "SeatsRound$Keepers" "table" "[I") (List.mem_of_getElem? (i := 4) rfl)) (fun _ h9 => h9) rfl dX11_knows_41 ?_
          refine lv_iload_n hx hb dX11_knows_44 rfl (lv_at hl 1 rfl) ?_
          refine lv_iload_n hx hb dX11_knows_45 rfl (lv_at hl 2 rfl) ?_
          refine ux_iast hx hb hK hP hD hS 11 0 (Nat.lt_of_lt_of_le (Nat.le_of_ble_eq_true rfl : 11 < 182) (Nat.le_add_right _ _)) (fun _ => (cC_11 _ _ _ _ _)) rfl h dX11_knows_46 (fun σ4 H locs h hP hD hS => ?_)
          refine lv_iload_n hx hb dX11_knows_47 rfl (lv_at hl 3 rfl) ?_
          exact ux_iret hx hb hr h hP hD hS hlocks dX11_knows_48
        · have h := cdN hcd h
          refine lv_ldc hx hb hown (hts (.constant RX11 152 (-2000000000)) (List.mem_of_getElem? (i := 3) rfl)) dX11_knows_24 ?_
          exact ux_iret hx hb hr h hP hD hS hlocks dX11_knows_26
  intro H locs ls h hP hD hS hl
  exact w0 σ a1 a2 H locs ls h hP hD hS (lv_sub hl [0, 1, 2] rfl)

set_option maxHeartbeats 4000000 in
set_option maxRecDepth 100000 in
theorem tX11_write (l : Launch) (dC : Nat → ClassId) (dI : Nat → Nat → Nat) (cy : Nat → ClassId) (ad : Nat → Nat) (τ nb : Nat) (hτ : τ < nb) (σ : S2) (a1 : Int32) (a2 : Int32) (sz : Nat) (r0 : Int32) (σ9 : S2) (h : fX11_write τ σ a1 a2 = some (r0, σ9)) : Met l yX11_write wsX11_write ({ frames := 7, cells := 0, slots := 0, locals := 160 }) (va_Pc [.ref (ad 0), .int a1, .int a2] (wPre (dC, dI) cy (wG (cC cy ad τ) ad (182 + 6 * nb) σ) sz)) (va_Qi (fun (r : Int32) (_ : Unit) => r = r0) (fun (_ : Unit) t => wAt (dC, dI) (va_A (wG (cC cy ad τ) ad (182 + 6 * nb) σ) sz) (wG (cC cy ad τ) ad (182 + 6 * nb) σ9) t) (va_A (wG (cC cy ad τ) ad (182 + 6 * nb) σ) sz)) 0 0 (va_A (wG (cC cy ad τ) ad (182 + 6 * nb) σ) sz) := by
  refine Met.ofW (cc := cX11_write) (maxL := 4) (ret := (some .int)) (by decide) rfl ?_
  intro p e s m args below meth c s₁ B hml hv
  obtain ⟨rfl, hsz, hP, hK, hD0, hN⟩ := hv
  have hx := B.exec
  have hb := B.bytes
  have hr := B.returns
  have hts := atoms_spec (ws := wsX11_write) B.pre
  have hown : s.vm.findClass RX11 = some m.cls := findClass_of_methodNamed B.named
  have hlocks := B.notSynchronized
  subst hsz
  have hD := hD0.self (sz := s.heap.size)
  generalize hAe : va_A (wG (cC cy ad τ) ad (182 + 6 * nb) σ) s.heap.size = A at hD ⊢
  have hA : ∀ q : Nat, s.heap.size ≤ q → A q := fun q h => by rw [← hAe]; exact Or.inr h
  have hS : va_S A s.heap s.heap [] := va_S.rf
  have hl := lv_entry ([.ref (ad 0), .int a1, .int a2]) (n := 4) (Nat.le_of_ble_eq_true rfl)
  rw [lg_entry_eq]
  generalize (lg_sl ([.ref (ad 0), .int a1, .int a2]) ++ List.replicate (4 - (lg_sl ([.ref (ad 0), .int a1, .int a2])).length) Slot.unset).toArray = ls at hl ⊢
  have hl : lv_has ls 4 [(0, .ref (ad 0)), (1, .int a1), (2, .int a2)] := hl
  unfold fX11_write at h
  clear hAe hD0
  suffices HH : ∀ (H : Heap) (locs : List Loc) (ls : Array Slot), fX11_write_0 τ σ a1 a2 = some (r0, σ9) → va_P (dC, dI) vwCl (wG (cC cy ad τ) ad (182 + 6 * nb) σ) H → va_D A (wG (cC cy ad τ) ad (182 + 6 * nb) σ) → va_S A s.heap H locs → lv_has ls 4 [(0, .ref (ad 0)), (1, .int a1), (2, .int a2)] → W p l e (headSpec wsX11_write ({ frames := 7, cells := 0, slots := 0, locals := 160 })).room s m (#[.ref (ad 0), .int a1, .int a2]) below meth c H locs 0 0 (MQ below (va_Qi (fun (r : Int32) (_ : Unit) => r = r0) (fun (_ : Unit) t => wAt (dC, dI) A (wG (cC cy ad τ) ad (182 + 6 * nb) σ9) t) A) (#[.ref (ad 0), .int a1, .int a2]) s 0 0 A) (F0 m 0 ls []) from HH s.heap [] ls h hP hD hS hl
  have w0 : ∀ (σ : S2) (x1 : Int32) (x2 : Int32) (H : Heap) (locs : List Loc) (ls : Array Slot), fX11_write_0 τ σ x1 x2 = some (r0, σ9) → va_P (dC, dI) vwCl (wG (cC cy ad τ) ad (182 + 6 * nb) σ) H → va_D A (wG (cC cy ad τ) ad (182 + 6 * nb) σ) → va_S A s.heap H locs → lv_has ls 4 [(0, .ref (ad 0)), (1, .int x1), (2, .int x2)] → W p l e (headSpec wsX11_write ({ frames := 7, cells := 0, slots := 0, locals := 160 })).room s m (#[.ref (ad 0), .int a1, .int a2]) below meth c H locs 0 0 (MQ below (va_Qi (fun (r : Int32) (_ : Unit) => r = r0) (fun (_ : Unit) t => wAt (dC, dI) A (wG (cC cy ad τ) ad (182 + 6 * nb) σ9) t) A) (#[.ref (ad 0), .int a1, .int a2]) s 0 0 A) (F0 m 0 ls []) := by
    intro σ x1 x2 H locs ls h hP hD hS hl
    unfold fX11_write_0 at h
    refine lv_aload_n hx hb dX11_write_0 rfl (lv_at hl 0 rfl) ?_
    refine ux_get (D := (dC, dI)) (ci := 11) (v := .ref (ad 7)) (C := RX11) (T := TX11) (M := 13) (fs := (oSR ad (σ.1 0))) hx hb hts (fun _ h9 => List.mem_cons_of_mem _ (List.mem_append_left _ (List.mem_append_left _ (List.mem_append_left _ (List.mem_append_left _ (List.mem_append_left _ (List.mem_append_right _ h9))))))) hown hK hP 0 (Nat.lt_of_lt_of_le (Nat.le_of_ble_eq_true rfl : 0 < 182) (Nat.le_add_right _ _)) (cC_0 _ _ _ _ _) rfl 2 (by decide) (hts (.fieldLink RX11 26 "SeatsRound" "keepers" "LSeatsRound$Keepers;") (List.mem_of_getElem? (i := 1) rfl)) (fun _ h9 => h9) rfl dX11_write_1 ?_
    refine lv_iload_n hx hb dX11_write_4 rfl (lv_at hl 1 rfl) ?_
    obtain ⟨r1, hf2, h⟩ := biS h
    refine ux_calli (va_runV (As := [.int x1]) (rest := []) ⟨hx, hb, hml, hown, hts⟩ (tX2_has l dC dI cy ad τ nb hτ σ x1 H.size r1 hf2) (cwV 1 hts gX11_write_X2_has rfl rfl rfl (by decide +kernel) ⟨Nat.le_of_ble_eq_true rfl, Nat.le_of_ble_eq_true rfl⟩) (wp_V hK hN hP hD (va_recv hK hP (ci := 2) (q0 := 7) rfl (wG_of (Nat.lt_of_lt_of_le (Nat.le_of_ble_eq_true rfl : 7 < 182) (Nat.le_add_right _ _)) (cC_7 _ _ _ _ _)))) rfl rfl hl.1 rfl (lv_room (Nat.le_of_ble_eq_true rfl)) dX11_write_5 ⟨Nat.le_of_ble_eq_true rfl, Nat.le_of_ble_eq_true rfl⟩) hD hS hA (fun H locs hP hD hS => ?_)
    refine lv_if_eq (tgt := 22) hx hb dX11_write_8 (by decide) (fun hcd => ?_) (fun hcd => ?_)
    · have h := cdP hcd h
      refine lv_iconst (v := (-1)) hx hb dX11_write_22 (by decide) ?_
      exact ux_iret hx hb hr h hP hD hS hlocks dX11_write_23
    · have h := cdN hcd h
      refine lv_aload_n hx hb dX11_write_11 rfl (lv_at hl 0 rfl) ?_
      refine ux_get (D := (dC, dI)) (ci := 11) (v := .ref (ad 3)) (C := RX11) (T := TX11) (M := 13) (fs := (oSR ad (σ.1 0))) hx hb hts (fun _ h9 => List.mem_cons_of_mem _ (List.mem_append_left _ (List.mem_append_left _ (List.mem_append_left _ (List.mem_append_left _ (List.mem_append_left _ (List.mem_append_right _ h9))))))) hown hK hP 0 (Nat.lt_of_lt_of_le (Nat.le_of_ble_eq_true rfl : 0 < 182) (Nat.le_add_right _ _)) (cC_0 _ _ _ _ _) rfl 1 (by decide) (hts (.fieldLink RX11 19 "SeatsRound" "nameList" "LSeatsRound$NameList;") (List.mem_of_getElem? (i := 2) rfl)) (fun _ h9 => h9) rfl dX11_write_12 ?_
      refine lv_iload_n hx hb dX11_write_15 rfl (lv_at hl 2 rfl) ?_
      obtain ⟨r3, hf4, h⟩ := biS h
      refine ux_calli (va_runV (As := [.int x2]) (rest := []) ⟨hx, hb, hml, hown, hts⟩ (tX4_has l dC dI cy ad τ nb hτ σ x2 H.size r3 hf4) (cwV 1 hts gX11_write_X4_has rfl rfl rfl (by decide +kernel) ⟨Nat.le_of_ble_eq_true rfl, Nat.le_of_ble_eq_true rfl⟩) (wp_V hK hN hP hD (va_recv hK hP (ci := 4) (q0 := 3) rfl (wG_of (Nat.lt_of_lt_of_le (Nat.le_of_ble_eq_true rfl : 3 < 182) (Nat.le_add_right _ _)) (cC_3 _ _ _ _ _)))) rfl rfl hl.1 rfl (lv_room (Nat.le_of_ble_eq_true rfl)) dX11_write_16 ⟨Nat.le_of_ble_eq_true rfl, Nat.le_of_ble_eq_true rfl⟩) hD hS hA (fun H locs hP hD hS => ?_)
      refine lv_if_ne (tgt := 24) hx hb dX11_write_19 (by decide) (fun hcd => ?_) (fun hcd => ?_)
      · have h := cdN hcd h
        refine lv_aload_n hx hb dX11_write_24 rfl (lv_at hl 0 rfl) ?_
        refine lv_aload_n hx hb dX11_write_25 rfl (lv_at hl 0 rfl) ?_
        refine ux_get (D := (dC, dI)) (ci := 11) (v := .ref (ad 7)) (C := RX11) (T := TX11) (M := 13) (fs := (oSR ad (σ.1 0))) hx hb hts (fun _ h9 => List.mem_cons_of_mem _ (List.mem_append_left _ (List.mem_append_left _ (List.mem_append_left _ (List.mem_append_left _ (List.mem_append_left _ (List.mem_append_right _ h9))))))) hown hK hP 0 (Nat.lt_of_lt_of_le (Nat.le_of_ble_eq_true rfl : 0 < 182) (Nat.le_add_right _ _)) (cC_0 _ _ _ _ _) rfl 2 (by decide) (hts (.fieldLink RX11 26 "SeatsRound" "keepers" "LSeatsRound$Keepers;") (List.mem_of_getElem? (i := 1) rfl)) (fun _ h9 => h9) rfl dX11_write_26 ?_
        refine ux_get (D := (dC, dI)) (ci := 2) (v := .ref (ad 11)) (C := RX2) (T := TX2) (M := 6) (fs := (oKP ad (σ.1 7))) hx hb hts (fun _ h9 => List.mem_cons_of_mem _ (List.mem_append_left _ (List.mem_append_left _ (List.mem_append_left _ (List.mem_append_left _ (List.mem_append_right _ h9)))))) hown hK hP 7 (Nat.lt_of_lt_of_le (Nat.le_of_ble_eq_true rfl : 7 < 182) (Nat.le_add_right _ _)) (cC_7 _ _ _ _ _) rfl 3 (by decide) (hts (.fieldLink RX11 160 "SeatsRound$Keepers" "table" "[I") (List.mem_of_getElem? (i := 3) rfl)) (fun _ h9 => h9) rfl dX11_write_29 ?_
        refine lv_iload_n hx hb dX11_write_32 rfl (lv_at hl 1 rfl) ?_
        refine ux_iald hx hb hK hP 11 0 (Nat.lt_of_lt_of_le (Nat.le_of_ble_eq_true rfl : 11 < 182) (Nat.le_add_right _ _)) (cC_11 _ _ _ _ _) rfl h dX11_write_33 (fun v5 h => ?_)
        rcases btS h with ⟨hf6, h⟩ | ⟨b7, hf6, h⟩
        · have _ := hτ
          refine ux_callqN (va_runV (As := [.int v5]) (rest := []) ⟨hx, hb, hml, hown, hts⟩ (tX11_tableAt l dC dI cy ad τ nb hτ σ v5 H.size none hf6) (cwV 1 hts gX11_write_X11_tableAt rfl rfl rfl (by decide +kernel) ⟨Nat.le_of_ble_eq_true rfl, Nat.le_of_ble_eq_true rfl⟩) (wp_V hK hN hP hD (va_recv hK hP (ci := 11) (q0 := 0) rfl (wG_of (Nat.lt_of_lt_of_le (Nat.le_of_ble_eq_true rfl : 0 < 182) (Nat.le_add_right _ _)) (cC_0 _ _ _ _ _)))) rfl rfl hl.1 rfl (lv_room (Nat.le_of_ble_eq_true rfl)) dX11_write_34 ⟨Nat.le_of_ble_eq_true rfl, Nat.le_of_ble_eq_true rfl⟩) ?_
          refine lv_astore_nN (lv' := [(3, .null), (0, .ref (ad 0)), (1, .int x1), (2, .int x2)]) hx hb dX11_write_37 rfl hl (by decide) rfl (fun ls hl => ?_)
          have hl := lv_sub hl [1, 2, 3, 0] (l' := [(0, .ref (ad 0)), (1, .int x1), (2, .int x2), (3, .null)]) rfl
          refine lv_aload_nN hx hb dX11_write_38 rfl (lv_at hl 3 rfl) ?_
          refine lv_ifnullN (tgt := 53) hx hb dX11_write_39 (by decide) ?_
          refine lv_bipush (v := (-5)) hx hb dX11_write_53 (by decide) ?_
          exact ux_iret hx hb hr h hP hD hS hlocks dX11_write_55
        · have hb7 : b7 < nb := ux_tabB hτ hf6
          refine ux_callqS (va_runV (As := [.int v5]) (rest := []) ⟨hx, hb, hml, hown, hts⟩ (tX11_tableAt l dC dI cy ad τ nb hτ σ v5 H.size (some b7) hf6) (cwV 1 hts gX11_write_X11_tableAt rfl rfl rfl (by decide +kernel) ⟨Nat.le_of_ble_eq_true rfl, Nat.le_of_ble_eq_true rfl⟩) (wp_V hK hN hP hD (va_recv hK hP (ci := 11) (q0 := 0) rfl (wG_of (Nat.lt_of_lt_of_le (Nat.le_of_ble_eq_true rfl : 0 < 182) (Nat.le_add_right _ _)) (cC_0 _ _ _ _ _)))) rfl rfl hl.1 rfl (lv_room (Nat.le_of_ble_eq_true rfl)) dX11_write_34 ⟨Nat.le_of_ble_eq_true rfl, Nat.le_of_ble_eq_true rfl⟩) ?_
          refine lv_astore_n (lv' := [(3, .ref (ad (182 + 6 * b7))), (0, .ref (ad 0)), (1, .int x1), (2, .int x2)]) hx hb dX11_write_37 rfl hl (by decide) rfl (fun ls hl => ?_)
          have hl := lv_sub hl [1, 2, 3, 0] (l' := [(0, .ref (ad 0)), (1, .int x1), (2, .int x2), (3, .ref (ad (182 + 6 * b7)))]) rfl
          refine lv_aload_n hx hb dX11_write_38 rfl (lv_at hl 3 rfl) ?_
          refine lv_ifnull hx hb dX11_write_39 ?_
          refine lv_aload_n hx hb dX11_write_42 rfl (lv_at hl 0 rfl) ?_
          refine ux_get (D := (dC, dI)) (ci := 11) (v := .ref (ad 7)) (C := RX11) (T := TX11) (M := 13) (fs := (oSR ad (σ.1 0))) hx hb hts (fun _ h9 => List.mem_cons_of_mem _ (List.mem_append_left _ (List.mem_append_left _ (List.mem_append_left _ (List.mem_append_left _ (List.mem_append_left _ (List.mem_append_right _ h9))))))) hown hK hP 0 (Nat.lt_of_lt_of_le (Nat.le_of_ble_eq_true rfl : 0 < 182) (Nat.le_add_right _ _)) (cC_0 _ _ _ _ _) rfl 2 (by decide) (hts (.fieldLink RX11 26 "SeatsRound" "keepers" "LSeatsRound$Keepers;") (List.mem_of_getElem? (i := 1) rfl)) (fun _ h9 => h9) rfl dX11_write_43 ?_
          refine lv_iload_n hx hb dX11_write_46 rfl (lv_at hl 1 rfl) ?_
          obtain ⟨r8, hf9, h⟩ := biS h
          refine ux_calli (va_runV (As := [.int x1]) (rest := []) ⟨hx, hb, hml, hown, hts⟩ (tX2_isUp l dC dI cy ad τ nb hτ σ x1 H.size r8 hf9) (cwV 1 hts gX11_write_X2_isUp rfl rfl rfl (by decide +kernel) ⟨Nat.le_of_ble_eq_true rfl, Nat.le_of_ble_eq_true rfl⟩) (wp_V hK hN hP hD (va_recv hK hP (ci := 2) (q0 := 7) rfl (wG_of (Nat.lt_of_lt_of_le (Nat.le_of_ble_eq_true rfl : 7 < 182) (Nat.le_add_right _ _)) (cC_7 _ _ _ _ _)))) rfl rfl hl.1 rfl (lv_room (Nat.le_of_ble_eq_true rfl)) dX11_write_47 ⟨Nat.le_of_ble_eq_true rfl, Nat.le_of_ble_eq_true rfl⟩) hD hS hA (fun H locs hP hD hS => ?_)
          refine lv_if_ne (tgt := 56) hx hb dX11_write_50 (by decide) (fun hcd => ?_) (fun hcd => ?_)
          · have h := cdN hcd h
            refine lv_aload_n hx hb dX11_write_56 rfl (lv_at hl 0 rfl) ?_
            refine ux_get (D := (dC, dI)) (ci := 11) (v := .ref (ad 18)) (C := RX11) (T := TX11) (M := 13) (fs := (oSR ad (σ.1 0))) hx hb hts (fun _ h9 => List.mem_cons_of_mem _ (List.mem_append_left _ (List.mem_append_left _ (List.mem_append_left _ (List.mem_append_left _ (List.mem_append_left _ (List.mem_append_right _ h9))))))) hown hK hP 0 (Nat.lt_of_lt_of_le (Nat.le_of_ble_eq_true rfl : 0 < 182) (Nat.le_add_right _ _)) (cC_0 _ _ _ _ _) rfl 8 (by decide) (hts (.fieldLink RX11 66 "SeatsRound" "parcels" "LSeatsRound$Parcels;") (List.mem_of_getElem? (i := 4) rfl)) (fun _ h9 => h9) rfl dX11_write_57 ?_
            refine lv_aload_n hx hb dX11_write_60 rfl (lv_at hl 3 rfl) ?_
            refine lv_iload_n hx hb dX11_write_61 rfl (lv_at hl 2 rfl) ?_
            obtain ⟨r10, σ11, hf12, h⟩ := bsS h
            refine ux_calli (va_runV (As := [.ref (ad (182 + 6 * b7)), .int x2]) (rest := []) ⟨hx, hb, hml, hown, hts⟩ (tX6_spread l dC dI cy ad τ nb hτ b7 (by omega) σ x2 H.size r10 σ11 hf12) (cwV 2 hts gX11_write_X6_spread rfl rfl rfl (by decide +kernel) ⟨Nat.le_of_ble_eq_true rfl, Nat.le_of_ble_eq_true rfl⟩) (wp_V hK hN hP hD (va_recv hK hP (ci := 6) (q0 := 18) rfl (wG_of (Nat.lt_of_lt_of_le (Nat.le_of_ble_eq_true rfl : 18 < 182) (Nat.le_add_right _ _)) (cC_18 _ _ _ _ _)))) rfl rfl hl.1 rfl (lv_room (Nat.le_of_ble_eq_true rfl)) dX11_write_62 ⟨Nat.le_of_ble_eq_true rfl, Nat.le_of_ble_eq_true rfl⟩) hD hS hA (fun H locs hP hD hS => ?_)
            exact ux_iret hx hb hr h hP hD hS hlocks dX11_write_65
          · have h := cdP hcd h
            refine lv_bipush (v := (-5)) hx hb dX11_write_53 (by decide) ?_
            exact ux_iret hx hb hr h hP hD hS hlocks dX11_write_55
      · have h := cdP hcd h
        refine lv_iconst (v := (-1)) hx hb dX11_write_22 (by decide) ?_
        exact ux_iret hx hb hr h hP hD hS hlocks dX11_write_23
  intro H locs ls h hP hD hS hl
  exact w0 σ a1 a2 H locs ls h hP hD hS (lv_sub hl [0, 1, 2] rfl)

set_option maxHeartbeats 4000000 in
set_option maxRecDepth 100000 in
theorem tX11_read (l : Launch) (dC : Nat → ClassId) (dI : Nat → Nat → Nat) (cy : Nat → ClassId) (ad : Nat → Nat) (τ nb : Nat) (hτ : τ < nb) (σ : S2) (a1 : Int32) (a2 : Int32) (sz : Nat) (r0 : Int32) (σ9 : S2) (h : fX11_read τ σ a1 a2 = some (r0, σ9)) : Met l yX11_read wsX11_read ({ frames := 7, cells := 0, slots := 0, locals := 161 }) (va_Pc [.ref (ad 0), .int a1, .int a2] (wPre (dC, dI) cy (wG (cC cy ad τ) ad (182 + 6 * nb) σ) sz)) (va_Qi (fun (r : Int32) (_ : Unit) => r = r0) (fun (_ : Unit) t => wAt (dC, dI) (va_A (wG (cC cy ad τ) ad (182 + 6 * nb) σ) sz) (wG (cC cy ad τ) ad (182 + 6 * nb) σ9) t) (va_A (wG (cC cy ad τ) ad (182 + 6 * nb) σ) sz)) 0 0 (va_A (wG (cC cy ad τ) ad (182 + 6 * nb) σ) sz) := by
  refine Met.ofW (cc := cX11_read) (maxL := 4) (ret := (some .int)) (by decide) rfl ?_
  intro p e s m args below meth c s₁ B hml hv
  obtain ⟨rfl, hsz, hP, hK, hD0, hN⟩ := hv
  have hx := B.exec
  have hb := B.bytes
  have hr := B.returns
  have hts := atoms_spec (ws := wsX11_read) B.pre
  have hown : s.vm.findClass RX11 = some m.cls := findClass_of_methodNamed B.named
  have hlocks := B.notSynchronized
  subst hsz
  have hD := hD0.self (sz := s.heap.size)
  generalize hAe : va_A (wG (cC cy ad τ) ad (182 + 6 * nb) σ) s.heap.size = A at hD ⊢
  have hA : ∀ q : Nat, s.heap.size ≤ q → A q := fun q h => by rw [← hAe]; exact Or.inr h
  have hS : va_S A s.heap s.heap [] := va_S.rf
  have hl := lv_entry ([.ref (ad 0), .int a1, .int a2]) (n := 4) (Nat.le_of_ble_eq_true rfl)
  rw [lg_entry_eq]
  generalize (lg_sl ([.ref (ad 0), .int a1, .int a2]) ++ List.replicate (4 - (lg_sl ([.ref (ad 0), .int a1, .int a2])).length) Slot.unset).toArray = ls at hl ⊢
  have hl : lv_has ls 4 [(0, .ref (ad 0)), (1, .int a1), (2, .int a2)] := hl
  unfold fX11_read at h
  clear hAe hD0
  suffices HH : ∀ (H : Heap) (locs : List Loc) (ls : Array Slot), fX11_read_0 τ σ a1 a2 = some (r0, σ9) → va_P (dC, dI) vwCl (wG (cC cy ad τ) ad (182 + 6 * nb) σ) H → va_D A (wG (cC cy ad τ) ad (182 + 6 * nb) σ) → va_S A s.heap H locs → lv_has ls 4 [(0, .ref (ad 0)), (1, .int a1), (2, .int a2)] → W p l e (headSpec wsX11_read ({ frames := 7, cells := 0, slots := 0, locals := 161 })).room s m (#[.ref (ad 0), .int a1, .int a2]) below meth c H locs 0 0 (MQ below (va_Qi (fun (r : Int32) (_ : Unit) => r = r0) (fun (_ : Unit) t => wAt (dC, dI) A (wG (cC cy ad τ) ad (182 + 6 * nb) σ9) t) A) (#[.ref (ad 0), .int a1, .int a2]) s 0 0 A) (F0 m 0 ls []) from HH s.heap [] ls h hP hD hS hl
  have w0 : ∀ (σ : S2) (x1 : Int32) (x2 : Int32) (H : Heap) (locs : List Loc) (ls : Array Slot), fX11_read_0 τ σ x1 x2 = some (r0, σ9) → va_P (dC, dI) vwCl (wG (cC cy ad τ) ad (182 + 6 * nb) σ) H → va_D A (wG (cC cy ad τ) ad (182 + 6 * nb) σ) → va_S A s.heap H locs → lv_has ls 4 [(0, .ref (ad 0)), (1, .int x1), (2, .int x2)] → W p l e (headSpec wsX11_read ({ frames := 7, cells := 0, slots := 0, locals := 161 })).room s m (#[.ref (ad 0), .int a1, .int a2]) below meth c H locs 0 0 (MQ below (va_Qi (fun (r : Int32) (_ : Unit) => r = r0) (fun (_ : Unit) t => wAt (dC, dI) A (wG (cC cy ad τ) ad (182 + 6 * nb) σ9) t) A) (#[.ref (ad 0), .int a1, .int a2]) s 0 0 A) (F0 m 0 ls []) := by
    intro σ x1 x2 H locs ls h hP hD hS hl
    unfold fX11_read_0 at h
    refine lv_aload_n hx hb dX11_read_0 rfl (lv_at hl 0 rfl) ?_
    refine ux_get (D := (dC, dI)) (ci := 11) (v := .ref (ad 7)) (C := RX11) (T := TX11) (M := 13) (fs := (oSR ad (σ.1 0))) hx hb hts (fun _ h9 => List.mem_cons_of_mem _ (List.mem_append_left _ (List.mem_append_left _ (List.mem_append_left _ (List.mem_append_left _ (List.mem_append_left _ (List.mem_append_right _ h9))))))) hown hK hP 0 (Nat.lt_of_lt_of_le (Nat.le_of_ble_eq_true rfl : 0 < 182) (Nat.le_add_right _ _)) (cC_0 _ _ _ _ _) rfl 2 (by decide) (hts (.fieldLink RX11 26 "SeatsRound" "keepers" "LSeatsRound$Keepers;") (List.mem_of_getElem? (i := 1) rfl)) (fun _ h9 => h9) rfl dX11_read_1 ?_
    refine lv_iload_n hx hb dX11_read_4 rfl (lv_at hl 1 rfl) ?_
    obtain ⟨r1, hf2, h⟩ := biS h
    refine ux_calli (va_runV (As := [.int x1]) (rest := []) ⟨hx, hb, hml, hown, hts⟩ (tX2_has l dC dI cy ad τ nb hτ σ x1 H.size r1 hf2) (cwV 1 hts gX11_read_X2_has rfl rfl rfl (by decide +kernel) ⟨Nat.le_of_ble_eq_true rfl, Nat.le_of_ble_eq_true rfl⟩) (wp_V hK hN hP hD (va_recv hK hP (ci := 2) (q0 := 7) rfl (wG_of (Nat.lt_of_lt_of_le (Nat.le_of_ble_eq_true rfl : 7 < 182) (Nat.le_add_right _ _)) (cC_7 _ _ _ _ _)))) rfl rfl hl.1 rfl (lv_room (Nat.le_of_ble_eq_true rfl)) dX11_read_5 ⟨Nat.le_of_ble_eq_true rfl, Nat.le_of_ble_eq_true rfl⟩) hD hS hA (fun H locs hP hD hS => ?_)
    refine lv_if_eq (tgt := 22) hx hb dX11_read_8 (by decide) (fun hcd => ?_) (fun hcd => ?_)
    · have h := cdP hcd h
      refine lv_iconst (v := (-1)) hx hb dX11_read_22 (by decide) ?_
      exact ux_iret hx hb hr h hP hD hS hlocks dX11_read_23
    · have h := cdN hcd h
      refine lv_aload_n hx hb dX11_read_11 rfl (lv_at hl 0 rfl) ?_
      refine ux_get (D := (dC, dI)) (ci := 11) (v := .ref (ad 3)) (C := RX11) (T := TX11) (M := 13) (fs := (oSR ad (σ.1 0))) hx hb hts (fun _ h9 => List.mem_cons_of_mem _ (List.mem_append_left _ (List.mem_append_left _ (List.mem_append_left _ (List.mem_append_left _ (List.mem_append_left _ (List.mem_append_right _ h9))))))) hown hK hP 0 (Nat.lt_of_lt_of_le (Nat.le_of_ble_eq_true rfl : 0 < 182) (Nat.le_add_right _ _)) (cC_0 _ _ _ _ _) rfl 1 (by decide) (hts (.fieldLink RX11 19 "SeatsRound" "nameList" "LSeatsRound$NameList;") (List.mem_of_getElem? (i := 2) rfl)) (fun _ h9 => h9) rfl dX11_read_12 ?_
      refine lv_iload_n hx hb dX11_read_15 rfl (lv_at hl 2 rfl) ?_
      obtain ⟨r3, hf4, h⟩ := biS h
      refine ux_calli (va_runV (As := [.int x2]) (rest := []) ⟨hx, hb, hml, hown, hts⟩ (tX4_has l dC dI cy ad τ nb hτ σ x2 H.size r3 hf4) (cwV 1 hts gX11_read_X4_has rfl rfl rfl (by decide +kernel) ⟨Nat.le_of_ble_eq_true rfl, Nat.le_of_ble_eq_true rfl⟩) (wp_V hK hN hP hD (va_recv hK hP (ci := 4) (q0 := 3) rfl (wG_of (Nat.lt_of_lt_of_le (Nat.le_of_ble_eq_true rfl : 3 < 182) (Nat.le_add_right _ _)) (cC_3 _ _ _ _ _)))) rfl rfl hl.1 rfl (lv_room (Nat.le_of_ble_eq_true rfl)) dX11_read_16 ⟨Nat.le_of_ble_eq_true rfl, Nat.le_of_ble_eq_true rfl⟩) hD hS hA (fun H locs hP hD hS => ?_)
      refine lv_if_ne (tgt := 24) hx hb dX11_read_19 (by decide) (fun hcd => ?_) (fun hcd => ?_)
      · have h := cdN hcd h
        refine lv_aload_n hx hb dX11_read_24 rfl (lv_at hl 0 rfl) ?_
        refine lv_aload_n hx hb dX11_read_25 rfl (lv_at hl 0 rfl) ?_
        refine ux_get (D := (dC, dI)) (ci := 11) (v := .ref (ad 7)) (C := RX11) (T := TX11) (M := 13) (fs := (oSR ad (σ.1 0))) hx hb hts (fun _ h9 => List.mem_cons_of_mem _ (List.mem_append_left _ (List.mem_append_left _ (List.mem_append_left _ (List.mem_append_left _ (List.mem_append_left _ (List.mem_append_right _ h9))))))) hown hK hP 0 (Nat.lt_of_lt_of_le (Nat.le_of_ble_eq_true rfl : 0 < 182) (Nat.le_add_right _ _)) (cC_0 _ _ _ _ _) rfl 2 (by decide) (hts (.fieldLink RX11 26 "SeatsRound" "keepers" "LSeatsRound$Keepers;") (List.mem_of_getElem? (i := 1) rfl)) (fun _ h9 => h9) rfl dX11_read_26 ?_
        refine ux_get (D := (dC, dI)) (ci := 2) (v := .ref (ad 11)) (C := RX2) (T := TX2) (M := 6) (fs := (oKP ad (σ.1 7))) hx hb hts (fun _ h9 => List.mem_cons_of_mem _ (List.mem_append_left _ (List.mem_append_left _ (List.mem_append_left _ (List.mem_append_left _ (List.mem_append_right _ h9)))))) hown hK hP 7 (Nat.lt_of_lt_of_le (Nat.le_of_ble_eq_true rfl : 7 < 182) (Nat.le_add_right _ _)) (cC_7 _ _ _ _ _) rfl 3 (by decide) (hts (.fieldLink RX11 160 "SeatsRound$Keepers" "table" "[I") (List.mem_of_getElem? (i := 3) rfl)) (fun _ h9 => h9) rfl dX11_read_29 ?_
        refine lv_iload_n hx hb dX11_read_32 rfl (lv_at hl 1 rfl) ?_
        refine ux_iald hx hb hK hP 11 0 (Nat.lt_of_lt_of_le (Nat.le_of_ble_eq_true rfl : 11 < 182) (Nat.le_add_right _ _)) (cC_11 _ _ _ _ _) rfl h dX11_read_33 (fun v5 h => ?_)
        rcases btS h with ⟨hf6, h⟩ | ⟨b7, hf6, h⟩
        · have _ := hτ
          refine ux_callqN (va_runV (As := [.int v5]) (rest := []) ⟨hx, hb, hml, hown, hts⟩ (tX11_tableAt l dC dI cy ad τ nb hτ σ v5 H.size none hf6) (cwV 1 hts gX11_read_X11_tableAt rfl rfl rfl (by decide +kernel) ⟨Nat.le_of_ble_eq_true rfl, Nat.le_of_ble_eq_true rfl⟩) (wp_V hK hN hP hD (va_recv hK hP (ci := 11) (q0 := 0) rfl (wG_of (Nat.lt_of_lt_of_le (Nat.le_of_ble_eq_true rfl : 0 < 182) (Nat.le_add_right _ _)) (cC_0 _ _ _ _ _)))) rfl rfl hl.1 rfl (lv_room (Nat.le_of_ble_eq_true rfl)) dX11_read_34 ⟨Nat.le_of_ble_eq_true rfl, Nat.le_of_ble_eq_true rfl⟩) ?_
          refine lv_astore_nN (lv' := [(3, .null), (0, .ref (ad 0)), (1, .int x1), (2, .int x2)]) hx hb dX11_read_37 rfl hl (by decide) rfl (fun ls hl => ?_)
          have hl := lv_sub hl [1, 2, 3, 0] (l' := [(0, .ref (ad 0)), (1, .int x1), (2, .int x2), (3, .null)]) rfl
          refine lv_aload_nN hx hb dX11_read_38 rfl (lv_at hl 3 rfl) ?_
          refine lv_ifnullN (tgt := 53) hx hb dX11_read_39 (by decide) ?_
          refine lv_bipush (v := (-5)) hx hb dX11_read_53 (by decide) ?_
          exact ux_iret hx hb hr h hP hD hS hlocks dX11_read_55
        · have hb7 : b7 < nb := ux_tabB hτ hf6
          refine ux_callqS (va_runV (As := [.int v5]) (rest := []) ⟨hx, hb, hml, hown, hts⟩ (tX11_tableAt l dC dI cy ad τ nb hτ σ v5 H.size (some b7) hf6) (cwV 1 hts gX11_read_X11_tableAt rfl rfl rfl (by decide +kernel) ⟨Nat.le_of_ble_eq_true rfl, Nat.le_of_ble_eq_true rfl⟩) (wp_V hK hN hP hD (va_recv hK hP (ci := 11) (q0 := 0) rfl (wG_of (Nat.lt_of_lt_of_le (Nat.le_of_ble_eq_true rfl : 0 < 182) (Nat.le_add_right _ _)) (cC_0 _ _ _ _ _)))) rfl rfl hl.1 rfl (lv_room (Nat.le_of_ble_eq_true rfl)) dX11_read_34 ⟨Nat.le_of_ble_eq_true rfl, Nat.le_of_ble_eq_true rfl⟩) ?_
          refine lv_astore_n (lv' := [(3, .ref (ad (182 + 6 * b7))), (0, .ref (ad 0)), (1, .int x1), (2, .int x2)]) hx hb dX11_read_37 rfl hl (by decide) rfl (fun ls hl => ?_)
          have hl := lv_sub hl [1, 2, 3, 0] (l' := [(0, .ref (ad 0)), (1, .int x1), (2, .int x2), (3, .ref (ad (182 + 6 * b7)))]) rfl
          refine lv_aload_n hx hb dX11_read_38 rfl (lv_at hl 3 rfl) ?_
          refine lv_ifnull hx hb dX11_read_39 ?_
          refine lv_aload_n hx hb dX11_read_42 rfl (lv_at hl 0 rfl) ?_
          refine ux_get (D := (dC, dI)) (ci := 11) (v := .ref (ad 7)) (C := RX11) (T := TX11) (M := 13) (fs := (oSR ad (σ.1 0))) hx hb hts (fun _ h9 => List.mem_cons_of_mem _ (List.mem_append_left _ (List.mem_append_left _ (List.mem_append_left _ (List.mem_append_left _ (List.mem_append_left _ (List.mem_append_right _ h9))))))) hown hK hP 0 (Nat.lt_of_lt_of_le (Nat.le_of_ble_eq_true rfl : 0 < 182) (Nat.le_add_right _ _)) (cC_0 _ _ _ _ _) rfl 2 (by decide) (hts (.fieldLink RX11 26 "SeatsRound" "keepers" "LSeatsRound$Keepers;") (List.mem_of_getElem? (i := 1) rfl)) (fun _ h9 => h9) rfl dX11_read_43 ?_
          refine lv_iload_n hx hb dX11_read_46 rfl (lv_at hl 1 rfl) ?_
          obtain ⟨r8, hf9, h⟩ := biS h
          refine ux_calli (va_runV (As := [.int x1]) (rest := []) ⟨hx, hb, hml, hown, hts⟩ (tX2_isUp l dC dI cy ad τ nb hτ σ x1 H.size r8 hf9) (cwV 1 hts gX11_read_X2_isUp rfl rfl rfl (by decide +kernel) ⟨Nat.le_of_ble_eq_true rfl, Nat.le_of_ble_eq_true rfl⟩) (wp_V hK hN hP hD (va_recv hK hP (ci := 2) (q0 := 7) rfl (wG_of (Nat.lt_of_lt_of_le (Nat.le_of_ble_eq_true rfl : 7 < 182) (Nat.le_add_right _ _)) (cC_7 _ _ _ _ _)))) rfl rfl hl.1 rfl (lv_room (Nat.le_of_ble_eq_true rfl)) dX11_read_47 ⟨Nat.le_of_ble_eq_true rfl, Nat.le_of_ble_eq_true rfl⟩) hD hS hA (fun H locs hP hD hS => ?_)
          refine lv_if_ne (tgt := 56) hx hb dX11_read_50 (by decide) (fun hcd => ?_) (fun hcd => ?_)
          · have h := cdN hcd h
            refine lv_aload_n hx hb dX11_read_56 rfl (lv_at hl 0 rfl) ?_
            refine ux_get (D := (dC, dI)) (ci := 11) (v := .ref (ad 18)) (C := RX11) (T := TX11) (M := 13) (fs := (oSR ad (σ.1 0))) hx hb hts (fun _ h9 => List.mem_cons_of_mem _ (List.mem_append_left _ (List.mem_append_left _ (List.mem_append_left _ (List.mem_append_left _ (List.mem_append_left _ (List.mem_append_right _ h9))))))) hown hK hP 0 (Nat.lt_of_lt_of_le (Nat.le_of_ble_eq_true rfl : 0 < 182) (Nat.le_add_right _ _)) (cC_0 _ _ _ _ _) rfl 8 (by decide) (hts (.fieldLink RX11 66 "SeatsRound" "parcels" "LSeatsRound$Parcels;") (List.mem_of_getElem? (i := 4) rfl)) (fun _ h9 => h9) rfl dX11_read_57 ?_
            refine lv_aload_n hx hb dX11_read_60 rfl (lv_at hl 3 rfl) ?_
            refine lv_iload_n hx hb dX11_read_61 rfl (lv_at hl 2 rfl) ?_
            obtain ⟨r10, σ11, hf12, h⟩ := bsS h
            refine ux_calli (va_runV (As := [.ref (ad (182 + 6 * b7)), .int x2]) (rest := []) ⟨hx, hb, hml, hown, hts⟩ (tX6_greatestFor l dC dI cy ad τ nb hτ b7 (by omega) σ x2 H.size r10 σ11 hf12) (cwV 2 hts gX11_read_X6_greatestFor rfl rfl rfl (by decide +kernel) ⟨Nat.le_of_ble_eq_true rfl, Nat.le_of_ble_eq_true rfl⟩) (wp_V hK hN hP hD (va_recv hK hP (ci := 6) (q0 := 18) rfl (wG_of (Nat.lt_of_lt_of_le (Nat.le_of_ble_eq_true rfl : 18 < 182) (Nat.le_add_right _ _)) (cC_18 _ _ _ _ _)))) rfl rfl hl.1 rfl (lv_room (Nat.le_of_ble_eq_true rfl)) dX11_read_62 ⟨Nat.le_of_ble_eq_true rfl, Nat.le_of_ble_eq_true rfl⟩) hD hS hA (fun H locs hP hD hS => ?_)
            exact ux_iret hx hb hr h hP hD hS hlocks dX11_read_65
          · have h := cdP hcd h
            refine lv_bipush (v := (-5)) hx hb dX11_read_53 (by decide) ?_
            exact ux_iret hx hb hr h hP hD hS hlocks dX11_read_55
      · have h := cdP hcd h
        refine lv_iconst (v := (-1)) hx hb dX11_read_22 (by decide) ?_
        exact ux_iret hx hb hr h hP hD hS hlocks dX11_read_23
  intro H locs ls h hP hD hS hl
  exact w0 σ a1 a2 H locs ls h hP hD hS (lv_sub hl [0, 1, 2] rfl)

set_option maxHeartbeats 4000000 in
set_option maxRecDepth 100000 in
theorem tX11_onShelf (l : Launch) (dC : Nat → ClassId) (dI : Nat → Nat → Nat) (cy : Nat → ClassId) (ad : Nat → Nat) (τ nb : Nat) (hτ : τ < nb) (σ : S2) (a1 : Int32) (a2 : Int32) (a3 : Int32) (sz : Nat) (r0 : Int32) (h : fX11_onShelf τ σ a1 a2 a3 = some r0) : Met l yX11_onShelf wsX11_onShelf ({ frames := 2, cells := 0, slots := 0, locals := 44 }) (va_Pc [.ref (ad 0), .int a1, .int a2, .int a3] (wPre (dC, dI) cy (wG (cC cy ad τ) ad (182 + 6 * nb) σ) sz)) (va_Qi (fun (r : Int32) (_ : Unit) => r = r0) (fun (_ : Unit) t => wAt (dC, dI) (va_A (wG (cC cy ad τ) ad (182 + 6 * nb) σ) sz) (wG (cC cy ad τ) ad (182 + 6 * nb) σ) t) (va_A (wG (cC cy ad τ) ad (182 + 6 * nb) σ) sz)) 0 0 (va_A (wG (cC cy ad τ) ad (182 + 6 * nb) σ) sz) := by
  refine Met.ofW (cc := cX11_onShelf) (maxL := 4) (ret := (some .int)) (by decide) rfl ?_
  intro p e s m args below meth c s₁ B hml hv
  obtain ⟨rfl, hsz, hP, hK, hD0, hN⟩ := hv
  have hx := B.exec
  have hb := B.bytes
  have hr := B.returns
  have hts := atoms_spec (ws := wsX11_onShelf) B.pre
  have hown : s.vm.findClass RX11 = some m.cls := findClass_of_methodNamed B.named
  have hlocks := B.notSynchronized
  subst hsz
  have hD := hD0.self (sz := s.heap.size)
  generalize hAe : va_A (wG (cC cy ad τ) ad (182 + 6 * nb) σ) s.heap.size = A at hD ⊢
  have hA : ∀ q : Nat, s.heap.size ≤ q → A q := fun q h => by rw [← hAe]; exact Or.inr h
  have hS : va_S A s.heap s.heap [] := va_S.rf
  have hl := lv_entry ([.ref (ad 0), .int a1, .int a2, .int a3]) (n := 4) (Nat.le_of_ble_eq_true rfl)
  rw [lg_entry_eq]
  generalize (lg_sl ([.ref (ad 0), .int a1, .int a2, .int a3]) ++ List.replicate (4 - (lg_sl ([.ref (ad 0), .int a1, .int a2, .int a3])).length) Slot.unset).toArray = ls at hl ⊢
  have hl : lv_has ls 4 [(0, .ref (ad 0)), (1, .int a1), (2, .int a2), (3, .int a3)] := hl
  unfold fX11_onShelf at h
  clear hAe hD0
  suffices HH : ∀ (H : Heap) (locs : List Loc) (ls : Array Slot), fX11_onShelf_0 τ σ a1 a2 a3 = some r0 → va_P (dC, dI) vwCl (wG (cC cy ad τ) ad (182 + 6 * nb) σ) H → va_D A (wG (cC cy ad τ) ad (182 + 6 * nb) σ) → va_S A s.heap H locs → lv_has ls 4 [(0, .ref (ad 0)), (1, .int a1), (2, .int a2), (3, .int a3)] → W p l e (headSpec wsX11_onShelf ({ frames := 2, cells := 0, slots := 0, locals := 44 })).room s m (#[.ref (ad 0), .int a1, .int a2, .int a3]) below meth c H locs 0 0 (MQ below (va_Qi (fun (r : Int32) (_ : Unit) => r = r0) (fun (_ : Unit) t => wAt (dC, dI) A (wG (cC cy ad τ) ad (182 + 6 * nb) σ) t) A) (#[.ref (ad 0), .int a1, .int a2, .int a3]) s 0 0 A) (F0 m 0 ls []) from HH s.heap [] ls h hP hD hS hl
  have w0 : ∀ (σ : S2) (x1 : Int32) (x2 : Int32) (x3 : Int32) (H : Heap) (locs : List Loc) (ls : Array Slot), fX11_onShelf_0 τ σ x1 x2 x3 = some r0 → va_P (dC, dI) vwCl (wG (cC cy ad τ) ad (182 + 6 * nb) σ) H → va_D A (wG (cC cy ad τ) ad (182 + 6 * nb) σ) → va_S A s.heap H locs → lv_has ls 4 [(0, .ref (ad 0)), (1, .int x1), (2, .int x2), (3, .int x3)] → W p l e (headSpec wsX11_onShelf ({ frames := 2, cells := 0, slots := 0, locals := 44 })).room s m (#[.ref (ad 0), .int a1, .int a2, .int a3]) below meth c H locs 0 0 (MQ below (va_Qi (fun (r : Int32) (_ : Unit) => r = r0) (fun (_ : Unit) t => wAt (dC, dI) A (wG (cC cy ad τ) ad (182 + 6 * nb) σ) t) A) (#[.ref (ad 0), .int a1, .int a2, .int a3]) s 0 0 A) (F0 m 0 ls []) := by
    intro σ x1 x2 x3 H locs ls h hP hD hS hl
    unfold fX11_onShelf_0 at h
    refine lv_aload_n hx hb dX11_onShelf_0 rfl (lv_at hl 0 rfl) ?_
    refine ux_get (D := (dC, dI)) (ci := 11) (v := .ref (ad 7)) (C := RX11) (T := TX11) (M := 13) (fs := (oSR ad (σ.1 0))) hx hb hts (fun _ h9 => List.mem_cons_of_mem _ (List.mem_append_left _ (List.mem_append_left _ (List.mem_append_left _ (List.mem_append_right _ h9))))) hown hK hP 0 (Nat.lt_of_lt_of_le (Nat.le_of_ble_eq_true rfl : 0 < 182) (Nat.le_add_right _ _)) (cC_0 _ _ _ _ _) rfl 2 (by decide) (hts (.fieldLink RX11 26 "SeatsRound" "keepers" "LSeatsRound$Keepers;") (List.mem_of_getElem? (i := 1) rfl)) (fun _ h9 => h9) rfl dX11_onShelf_1 ?_
    refine lv_iload_n hx hb dX11_onShelf_4 rfl (lv_at hl 1 rfl) ?_
    obtain ⟨r1, hf2, h⟩ := biS h
    refine ux_calli (va_runV (As := [.int x1]) (rest := []) ⟨hx, hb, hml, hown, hts⟩ (tX2_has l dC dI cy ad τ nb hτ σ x1 H.size r1 hf2) (cwV 1 hts gX11_onShelf_X2_has rfl rfl rfl (by decide +kernel) ⟨Nat.le_of_ble_eq_true rfl, Nat.le_of_ble_eq_true rfl⟩) (wp_V hK hN hP hD (va_recv hK hP (ci := 2) (q0 := 7) rfl (wG_of (Nat.lt_of_lt_of_le (Nat.le_of_ble_eq_true rfl : 7 < 182) (Nat.le_add_right _ _)) (cC_7 _ _ _ _ _)))) rfl rfl hl.1 rfl (lv_room (Nat.le_of_ble_eq_true rfl)) dX11_onShelf_5 ⟨Nat.le_of_ble_eq_true rfl, Nat.le_of_ble_eq_true rfl⟩) hD hS hA (fun H locs hP hD hS => ?_)
    refine lv_if_eq (tgt := 22) hx hb dX11_onShelf_8 (by decide) (fun hcd => ?_) (fun hcd => ?_)
    · have h := cdP hcd h
      refine lv_iconst (v := (-1)) hx hb dX11_onShelf_22 (by decide) ?_
      exact ux_iretP hx hb hr h hP hD hS hlocks dX11_onShelf_23
    · have h := cdN hcd h
      refine lv_aload_n hx hb dX11_onShelf_11 rfl (lv_at hl 0 rfl) ?_
      refine ux_get (D := (dC, dI)) (ci := 11) (v := .ref (ad 3)) (C := RX11) (T := TX11) (M := 13) (fs := (oSR ad (σ.1 0))) hx hb hts (fun _ h9 => List.mem_cons_of_mem _ (List.mem_append_left _ (List.mem_append_left _ (List.mem_append_left _ (List.mem_append_right _ h9))))) hown hK hP 0 (Nat.lt_of_lt_of_le (Nat.le_of_ble_eq_true rfl : 0 < 182) (Nat.le_add_right _ _)) (cC_0 _ _ _ _ _) rfl 1 (by decide) (hts (.fieldLink RX11 19 "SeatsRound" "nameList" "LSeatsRound$NameList;") (List.mem_of_getElem? (i := 2) rfl)) (fun _ h9 => h9) rfl dX11_onShelf_12 ?_
      refine lv_iload_n hx hb dX11_onShelf_15 rfl (lv_at hl 2 rfl) ?_
      obtain ⟨r3, hf4, h⟩ := biS h
      refine ux_calli (va_runV (As := [.int x2]) (rest := []) ⟨hx, hb, hml, hown, hts⟩ (tX4_has l dC dI cy ad τ nb hτ σ x2 H.size r3 hf4) (cwV 1 hts gX11_onShelf_X4_has rfl rfl rfl (by decide +kernel) ⟨Nat.le_of_ble_eq_true rfl, Nat.le_of_ble_eq_true rfl⟩) (wp_V hK hN hP hD (va_recv hK hP (ci := 4) (q0 := 3) rfl (wG_of (Nat.lt_of_lt_of_le (Nat.le_of_ble_eq_true rfl : 3 < 182) (Nat.le_add_right _ _)) (cC_3 _ _ _ _ _)))) rfl rfl hl.1 rfl (lv_room (Nat.le_of_ble_eq_true rfl)) dX11_onShelf_16 ⟨Nat.le_of_ble_eq_true rfl, Nat.le_of_ble_eq_true rfl⟩) hD hS hA (fun H locs hP hD hS => ?_)
      refine lv_if_ne (tgt := 24) hx hb dX11_onShelf_19 (by decide) (fun hcd => ?_) (fun hcd => ?_)
      · have h := cdN hcd h
        refine lv_iload_n hx hb dX11_onShelf_24 rfl (lv_at hl 3 rfl) ?_
        by_cases hcd5 : x3 = 0
        · have h := cdP hcd5 h
          refine lv_tableIn (off := 31) (tgt := 56) hx hb dX11_onShelf_25 (by rw [hcd5]; decide) (by rw [hcd5]; decide) (by rw [hcd5]; rfl) (by decide) ?_
          refine lv_aload_n hx hb dX11_onShelf_56 rfl (lv_at hl 0 rfl) ?_
          refine ux_get (D := (dC, dI)) (ci := 11) (v := .ref (ad 18)) (C := RX11) (T := TX11) (M := 13) (fs := (oSR ad (σ.1 0))) hx hb hts (fun _ h9 => List.mem_cons_of_mem _ (List.mem_append_left _ (List.mem_append_left _ (List.mem_append_left _ (List.mem_append_right _ h9))))) hown hK hP 0 (Nat.lt_of_lt_of_le (Nat.le_of_ble_eq_true rfl : 0 < 182) (Nat.le_add_right _ _)) (cC_0 _ _ _ _ _) rfl 8 (by decide) (hts (.fieldLink RX11 66 "SeatsRound" "parcels" "LSeatsRound$Parcels;") (List.mem_of_getElem? (i := 3) rfl)) (fun _ h9 => h9) rfl dX11_onShelf_57 ?_
          refine ux_get (D := (dC, dI)) (ci := 6) (v := .ref (ad 19)) (C := RX6) (T := TX6) (M := 12) (fs := (oPC ad (σ.1 18))) hx hb hts (fun _ h9 => List.mem_cons_of_mem _ (List.mem_append_left _ (List.mem_append_left _ (List.mem_append_right _ h9)))) hown hK hP 18 (Nat.lt_of_lt_of_le (Nat.le_of_ble_eq_true rfl : 18 < 182) (Nat.le_add_right _ _)) (cC_18 _ _ _ _ _) rfl 0 (by decide) (hts (.fieldLink RX11 277 "SeatsRound$Parcels" "version" "[[I") (List.mem_of_getElem? (i := 4) rfl)) (fun _ h9 => h9) rfl dX11_onShelf_60 ?_
          refine lv_iload_n hx hb dX11_onShelf_63 rfl (lv_at hl 1 rfl) ?_
          obtain ⟨hii6, h⟩ := ckS h
          have hri6 := vp_lt hii6
          refine vz_aldg hx hb hK hP 19 6 (wG_of (Nat.lt_of_lt_of_le (Nat.le_of_ble_eq_true rfl : 19 < 182) (Nat.le_add_right _ _)) (cC_19 _ _ _ _ _)) rfl hii6 (if_pos hri6) dX11_onShelf_64 ?_
          refine lv_iload_n hx hb dX11_onShelf_65 rfl (lv_at hl 2 rfl) ?_
          refine ux_iald hx hb hK hP (84 + Int32.toNatClampNeg x1) 0 (by omega) (cC_r1 _ _ _ _ _ _ (by omega)) rfl h dX11_onShelf_66 (fun v7 h => ?_)
          exact ux_iretP hx hb hr h hP hD hS hlocks dX11_onShelf_67
        · have h := cdN hcd5 h
          have ihcd5 : ¬ x3.toInt = (0 : Int) := fun h9 => hcd5 (Int32.toInt_inj.mp h9)
          by_cases hcd8 : x3 = 1
          · have h := cdP hcd8 h
            refine lv_tableIn (off := 43) (tgt := 68) hx hb dX11_onShelf_25 (by rw [hcd8]; decide) (by rw [hcd8]; decide) (by rw [hcd8]; rfl) (by decide) ?_
            refine lv_aload_n hx hb dX11_onShelf_68 rfl (lv_at hl 0 rfl) ?_
            refine ux_get (D := (dC, dI)) (ci := 11) (v := .ref (ad 18)) (C := RX11) (T := TX11) (M := 13) (fs := (oSR ad (σ.1 0))) hx hb hts (fun _ h9 => List.mem_cons_of_mem _ (List.mem_append_left _ (List.mem_append_left _ (List.mem_append_left _ (List.mem_append_right _ h9))))) hown hK hP 0 (Nat.lt_of_lt_of_le (Nat.le_of_ble_eq_true rfl : 0 < 182) (Nat.le_add_right _ _)) (cC_0 _ _ _ _ _) rfl 8 (by decide) (hts (.fieldLink RX11 66 "SeatsRound" "parcels" "LSeatsRound$Parcels;") (List.mem_of_getElem? (i := 3) rfl)) (fun _ h9 => h9) rfl dX11_onShelf_69 ?_
            refine ux_get (D := (dC, dI)) (ci := 6) (v := .ref (ad 20)) (C := RX6) (T := TX6) (M := 12) (fs := (oPC ad (σ.1 18))) hx hb hts (fun _ h9 => List.mem_cons_of_mem _ (List.mem_append_left _ (List.mem_append_left _ (List.mem_append_right _ h9)))) hown hK hP 18 (Nat.lt_of_lt_of_le (Nat.le_of_ble_eq_true rfl : 18 < 182) (Nat.le_add_right _ _)) (cC_18 _ _ _ _ _) rfl 1 (by decide) (hts (.fieldLink RX11 281 "SeatsRound$Parcels" "kept" "[[I") (List.mem_of_getElem? (i := 5) rfl)) (fun _ h9 => h9) rfl dX11_onShelf_72 ?_
            refine lv_iload_n hx hb dX11_onShelf_75 rfl (lv_at hl 1 rfl) ?_
            obtain ⟨hii9, h⟩ := ckS h
            have hri9 := vp_lt hii9
            refine vz_aldg hx hb hK hP 20 6 (wG_of (Nat.lt_of_lt_of_le (Nat.le_of_ble_eq_true rfl : 20 < 182) (Nat.le_add_right _ _)) (cC_20 _ _ _ _ _)) rfl hii9 (if_pos hri9) dX11_onShelf_76 ?_
            refine lv_iload_n hx hb dX11_onShelf_77 rfl (lv_at hl 2 rfl) ?_
            refine ux_iald hx hb hK hP (96 + Int32.toNatClampNeg x1) 0 (by omega) (cC_r2 _ _ _ _ _ _ (by omega)) rfl h dX11_onShelf_78 (fun v10 h => ?_)
            exact ux_iretP hx hb hr h hP hD hS hlocks dX11_onShelf_79
          · have h := cdN hcd8 h
            have ihcd8 : ¬ x3.toInt = (1 : Int) := fun h9 => hcd8 (Int32.toInt_inj.mp h9)
            by_cases hcd11 : x3 = 2
            · have h := cdP hcd11 h
              refine lv_tableIn (off := 55) (tgt := 80) hx hb dX11_onShelf_25 (by rw [hcd11]; decide) (by rw [hcd11]; decide) (by rw [hcd11]; rfl) (by decide) ?_
              refine lv_aload_n hx hb dX11_onShelf_80 rfl (lv_at hl 0 rfl) ?_
              refine ux_get (D := (dC, dI)) (ci := 11) (v := .ref (ad 18)) (C := RX11) (T := TX11) (M := 13) (fs := (oSR ad (σ.1 0))) hx hb hts (fun _ h9 => List.mem_cons_of_mem _ (List.mem_append_left _ (List.mem_append_left _ (List.mem_append_left _ (List.mem_append_right _ h9))))) hown hK hP 0 (Nat.lt_of_lt_of_le (Nat.le_of_ble_eq_true rfl : 0 < 182) (Nat.le_add_right _ _)) (cC_0 _ _ _ _ _) rfl 8 (by decide) (hts (.fieldLink RX11 66 "SeatsRound" "parcels" "LSeatsRound$Parcels;") (List.mem_of_getElem? (i := 3) rfl)) (fun _ h9 => h9) rfl dX11_onShelf_81 ?_
              refine ux_get (D := (dC, dI)) (ci := 6) (v := .ref (ad 20)) (C := RX6) (T := TX6) (M := 12) (fs := (oPC ad (σ.1 18))) hx hb hts (fun _ h9 => List.mem_cons_of_mem _ (List.mem_append_left _ (List.mem_append_left _ (List.mem_append_right _ h9)))) hown hK hP 18 (Nat.lt_of_lt_of_le (Nat.le_of_ble_eq_true rfl : 18 < 182) (Nat.le_add_right _ _)) (cC_18 _ _ _ _ _) rfl 1 (by decide) (hts (.fieldLink RX11 281 "SeatsRound$Parcels" "kept" "[[I") (List.mem_of_getElem? (i := 5) rfl)) (fun _ h9 => h9) rfl dX11_onShelf_84 ?_
              refine lv_iload_n hx hb dX11_onShelf_87 rfl (lv_at hl 1 rfl) ?_
              obtain ⟨hii12, h⟩ := ckS h
              have hri12 := vp_lt hii12
              refine vz_aldg hx hb hK hP 20 6 (wG_of (Nat.lt_of_lt_of_le (Nat.le_of_ble_eq_true rfl : 20 < 182) (Nat.le_add_right _ _)) (cC_20 _ _ _ _ _)) rfl hii12 (if_pos hri12) dX11_onShelf_88 ?_
              refine lv_iload_n hx hb dX11_onShelf_89 rfl (lv_at hl 2 rfl) ?_
              refine ux_iald hx hb hK hP (96 + Int32.toNatClampNeg x1) 0 (by omega) (cC_r2 _ _ _ _ _ _ (by omega)) rfl h dX11_onShelf_90 (fun v13 h => ?_)
              refine lv_if_ne (tgt := 99) hx hb dX11_onShelf_91 (by decide) (fun hcd => ?_) (fun hcd => ?_)
              · have h := cdN hcd h
                refine lv_aload_n hx hb dX11_onShelf_99 rfl (lv_at hl 0 rfl) ?_
                refine ux_get (D := (dC, dI)) (ci := 11) (v := .ref (ad 18)) (C := RX11) (T := TX11) (M := 13) (fs := (oSR ad (σ.1 0))) hx hb hts (fun _ h9 => List.mem_cons_of_mem _ (List.mem_append_left _ (List.mem_append_left _ (List.mem_append_left _ (List.mem_append_right _ h9))))) hown hK hP 0 (Nat.lt_of_lt_of_le (Nat.le_of_ble_eq_true rfl : 0 < 182) (Nat.le_add_right _ _)) (cC_0 _ _ _ _ _) rfl 8 (by decide) (hts (.fieldLink RX11 66 "SeatsRound" "parcels" "LSeatsRound$Parcels;") (List.mem_of_getElem? (i := 3) rfl)) (fun _ h9 => h9) rfl dX11_onShelf_100 ?_
                refine ux_get (D := (dC, dI)) (ci := 6) (v := .ref (ad 21)) (C := RX6) (T := TX6) (M := 12) (fs := (oPC ad (σ.1 18))) hx hb hts (fun _ h9 => List.mem_cons_of_mem _ (List.mem_append_left _ (List.mem_append_left _ (List.mem_append_right _ h9)))) hown hK hP 18 (Nat.lt_of_lt_of_le (Nat.le_of_ble_eq_true rfl : 18 < 182) (Nat.le_add_right _ _)) (cC_18 _ _ _ _ _) rfl 2 (by decide) (hts (.fieldLink RX11 284 "SeatsRound$Parcels" "keptFor" "[[I") (List.mem_of_getElem? (i := 6) rfl)) (fun _ h9 => h9) rfl dX11_onShelf_103 ?_
                refine lv_iload_n hx hb dX11_onShelf_106 rfl (lv_at hl 1 rfl) ?_
                obtain ⟨hii14, h⟩ := ckS h
                have hri14 := vp_lt hii14
                refine vz_aldg hx hb hK hP 21 6 (wG_of (Nat.lt_of_lt_of_le (Nat.le_of_ble_eq_true rfl : 21 < 182) (Nat.le_add_right _ _)) (cC_21 _ _ _ _ _)) rfl hii14 (if_pos hri14) dX11_onShelf_107 ?_
                refine lv_iload_n hx hb dX11_onShelf_108 rfl (lv_at hl 2 rfl) ?_
                refine ux_iald hx hb hK hP (108 + Int32.toNatClampNeg x1) 0 (by omega) (cC_r3 _ _ _ _ _ _ (by omega)) rfl h dX11_onShelf_109 (fun v15 h => ?_)
                exact ux_iretP hx hb hr h hP hD hS hlocks dX11_onShelf_110
              · have h := cdP hcd h
                refine lv_bipush (v := (-2)) hx hb dX11_onShelf_94 (by decide) ?_
                refine lv_goto (tgt := 110) hx hb dX11_onShelf_96 (by decide) ?_
                exact ux_iretP hx hb hr h hP hD hS hlocks dX11_onShelf_110
            · have h := cdN hcd11 h
              have ihcd11 : ¬ x3.toInt = (2 : Int) := fun h9 => hcd11 (Int32.toInt_inj.mp h9)
              by_cases hcd16 : x3 = 3
              · have h := cdP hcd16 h
                refine lv_tableIn (off := 86) (tgt := 111) hx hb dX11_onShelf_25 (by rw [hcd16]; decide) (by rw [hcd16]; decide) (by rw [hcd16]; rfl) (by decide) ?_
                refine lv_aload_n hx hb dX11_onShelf_111 rfl (lv_at hl 0 rfl) ?_
                refine ux_get (D := (dC, dI)) (ci := 11) (v := .ref (ad 18)) (C := RX11) (T := TX11) (M := 13) (fs := (oSR ad (σ.1 0))) hx hb hts (fun _ h9 => List.mem_cons_of_mem _ (List.mem_append_left _ (List.mem_append_left _ (List.mem_append_left _ (List.mem_append_right _ h9))))) hown hK hP 0 (Nat.lt_of_lt_of_le (Nat.le_of_ble_eq_true rfl : 0 < 182) (Nat.le_add_right _ _)) (cC_0 _ _ _ _ _) rfl 8 (by decide) (hts (.fieldLink RX11 66 "SeatsRound" "parcels" "LSeatsRound$Parcels;") (List.mem_of_getElem? (i := 3) rfl)) (fun _ h9 => h9) rfl dX11_onShelf_112 ?_
                refine ux_get (D := (dC, dI)) (ci := 6) (v := .ref (ad 22)) (C := RX6) (T := TX6) (M := 12) (fs := (oPC ad (σ.1 18))) hx hb hts (fun _ h9 => List.mem_cons_of_mem _ (List.mem_append_left _ (List.mem_append_left _ (List.mem_append_right _ h9)))) hown hK hP 18 (Nat.lt_of_lt_of_le (Nat.le_of_ble_eq_true rfl : 18 < 182) (Nat.le_add_right _ _)) (cC_18 _ _ _ _ _) rfl 3 (by decide) (hts (.fieldLink RX11 287 "SeatsRound$Parcels" "pieces" "[[I") (List.mem_of_getElem? (i := 7) rfl)) (fun _ h9 => h9) rfl dX11_onShelf_115 ?_
                refine lv_iload_n hx hb dX11_onShelf_118 rfl (lv_at hl 1 rfl) ?_
                obtain ⟨hii17, h⟩ := ckS h
                have hri17 := vp_lt hii17
                refine vz_aldg hx hb hK hP 22 6 (wG_of (Nat.lt_of_lt_of_le (Nat.le_of_ble_eq_true rfl : 22 < 182) (Nat.le_add_right _ _)) (cC_22 _ _ _ _ _)) rfl hii17 (if_pos hri17) dX11_onShelf_119 ?_
                refine lv_iload_n hx hb dX11_onShelf_120 rfl (lv_at hl 2 rfl) ?_
                refine ux_iald hx hb hK hP (120 + Int32.toNatClampNeg x1) 0 (by omega) (cC_r4 _ _ _ _ _ _ (by omega)) rfl h dX11_onShelf_121 (fun v18 h => ?_)
                exact ux_iretP hx hb hr h hP hD hS hlocks dX11_onShelf_122
              · have h := cdN hcd16 h
                have ihcd16 : ¬ x3.toInt = (3 : Int) := fun h9 => hcd16 (Int32.toInt_inj.mp h9)
                refine lv_tableOut (tgt := 123) hx hb dX11_onShelf_25 (by omega) (by decide) ?_
                refine lv_iconst (v := (-1)) hx hb dX11_onShelf_123 (by decide) ?_
                exact ux_iretP hx hb hr h hP hD hS hlocks dX11_onShelf_124
      · have h := cdP hcd h
        refine lv_iconst (v := (-1)) hx hb dX11_onShelf_22 (by decide) ?_
        exact ux_iretP hx hb hr h hP hD hS hlocks dX11_onShelf_23
  intro H locs ls h hP hD hS hl
  exact w0 σ a1 a2 a3 H locs ls h hP hD hS (lv_sub hl [0, 1, 2, 3] rfl)

set_option maxHeartbeats 4000000 in
set_option maxRecDepth 100000 in
theorem tX11_fall (l : Launch) (dC : Nat → ClassId) (dI : Nat → Nat → Nat) (cy : Nat → ClassId) (ad : Nat → Nat) (τ nb : Nat) (hτ : τ < nb) (σ : S2) (a1 : Int32) (a2 : Int32) (sz : Nat) (r0 : Int32) (σ9 : S2) (h : fX11_fall τ σ a1 a2 = some (r0, σ9)) : Met l yX11_fall wsX11_fall ({ frames := 3, cells := 0, slots := 0, locals := 67 }) (va_Pc [.ref (ad 0), .int a1, .int a2] (wPre (dC, dI) cy (wG (cC cy ad τ) ad (182 + 6 * nb) σ) sz)) (va_Qi (fun (r : Int32) (_ : Unit) => r = r0) (fun (_ : Unit) t => wAt (dC, dI) (va_A (wG (cC cy ad τ) ad (182 + 6 * nb) σ) sz) (wG (cC cy ad τ) ad (182 + 6 * nb) σ9) t) (va_A (wG (cC cy ad τ) ad (182 + 6 * nb) σ) sz)) 0 0 (va_A (wG (cC cy ad τ) ad (182 + 6 * nb) σ) sz) := by
  refine Met.ofW (cc := cX11_fall) (maxL := 4) (ret := (some .int)) (by decide) rfl ?_
  intro p e s m args below meth c s₁ B hml hv
  obtain ⟨rfl, hsz, hP, hK, hD0, hN⟩ := hv
  have hx := B.exec
  have hb := B.bytes
  have hr := B.returns
  have hts := atoms_spec (ws := wsX11_fall) B.pre
  have hown : s.vm.findClass RX11 = some m.cls := findClass_of_methodNamed B.named
  have hlocks := B.notSynchronized
  subst hsz
  have hD := hD0.self (sz := s.heap.size)
  generalize hAe : va_A (wG (cC cy ad τ) ad (182 + 6 * nb) σ) s.heap.size = A at hD ⊢
  have hA : ∀ q : Nat, s.heap.size ≤ q → A q := fun q h => by rw [← hAe]; exact Or.inr h
  have hS : va_S A s.heap s.heap [] := va_S.rf
  have hl := lv_entry ([.ref (ad 0), .int a1, .int a2]) (n := 4) (Nat.le_of_ble_eq_true rfl)
  rw [lg_entry_eq]
  generalize (lg_sl ([.ref (ad 0), .int a1, .int a2]) ++ List.replicate (4 - (lg_sl ([.ref (ad 0), .int a1, .int a2])).length) Slot.unset).toArray = ls at hl ⊢
  have hl : lv_has ls 4 [(0, .ref (ad 0)), (1, .int a1), (2, .int a2)] := hl
  unfold fX11_fall at h
  clear hAe hD0
  suffices HH : ∀ (H : Heap) (locs : List Loc) (ls : Array Slot), fX11_fall_0 τ σ a1 a2 = some (r0, σ9) → va_P (dC, dI) vwCl (wG (cC cy ad τ) ad (182 + 6 * nb) σ) H → va_D A (wG (cC cy ad τ) ad (182 + 6 * nb) σ) → va_S A s.heap H locs → lv_has ls 4 [(0, .ref (ad 0)), (1, .int a1), (2, .int a2)] → W p l e (headSpec wsX11_fall ({ frames := 3, cells := 0, slots := 0, locals := 67 })).room s m (#[.ref (ad 0), .int a1, .int a2]) below meth c H locs 0 0 (MQ below (va_Qi (fun (r : Int32) (_ : Unit) => r = r0) (fun (_ : Unit) t => wAt (dC, dI) A (wG (cC cy ad τ) ad (182 + 6 * nb) σ9) t) A) (#[.ref (ad 0), .int a1, .int a2]) s 0 0 A) (F0 m 0 ls []) from HH s.heap [] ls h hP hD hS hl
  have w58 : ∀ (σ : S2) (x1 : Int32) (x2 : Int32) (x3 : Int32) (s0 : Int32) (s1 : Int32) (H : Heap) (locs : List Loc) (ls : Array Slot), fX11_fall_58 τ σ x1 x2 x3 s0 s1 = some (r0, σ9) → va_P (dC, dI) vwCl (wG (cC cy ad τ) ad (182 + 6 * nb) σ) H → va_D A (wG (cC cy ad τ) ad (182 + 6 * nb) σ) → va_S A s.heap H locs → lv_has ls 4 [(0, .ref (ad 0)), (1, .int x1), (2, .int x2), (3, .int x3)] → W p l e (headSpec wsX11_fall ({ frames := 3, cells := 0, slots := 0, locals := 67 })).room s m (#[.ref (ad 0), .int a1, .int a2]) below meth c H locs 0 0 (MQ below (va_Qi (fun (r : Int32) (_ : Unit) => r = r0) (fun (_ : Unit) t => wAt (dC, dI) A (wG (cC cy ad τ) ad (182 + 6 * nb) σ9) t) A) (#[.ref (ad 0), .int a1, .int a2]) s 0 0 A) (F0 m 58 ls [.int s0, .int s1, .ref (ad 12)]) := by
    intro σ x1 x2 x3 s0 s1 H locs ls h hP hD hS hl
    unfold fX11_fall_58 at h
    refine ux_zast hx hb hK hP hD hS 12 2 (Nat.lt_of_lt_of_le (Nat.le_of_ble_eq_true rfl : 12 < 182) (Nat.le_add_right _ _)) (fun _ => (cC_12 _ _ _ _ _)) rfl h dX11_fall_58 (fun σ1 H locs h hP hD hS => ?_)
    refine lv_iload_n hx hb dX11_fall_59 rfl (lv_at hl 2 rfl) ?_
    refine lv_iconst (v := 1) hx hb dX11_fall_60 (by decide) ?_
    refine lv_icmp_ne (tgt := 72) hx hb dX11_fall_61 (by decide) (fun hcd => ?_) (fun hcd => ?_)
    · have h := cdN hcd h
      refine lv_iload_n hx hb dX11_fall_72 rfl (lv_at hl 3 rfl) ?_
      exact ux_iret hx hb hr h hP hD hS hlocks dX11_fall_73
    · have h := cdP hcd h
      refine lv_aload_n hx hb dX11_fall_64 rfl (lv_at hl 0 rfl) ?_
      refine ux_get (D := (dC, dI)) (ci := 11) (v := .ref (ad 18)) (C := RX11) (T := TX11) (M := 13) (fs := (oSR ad (σ1.1 0))) hx hb hts (fun _ h9 => List.mem_cons_of_mem _ (List.mem_append_left _ (List.mem_append_left _ (List.mem_append_right _ h9)))) hown hK hP 0 (Nat.lt_of_lt_of_le (Nat.le_of_ble_eq_true rfl : 0 < 182) (Nat.le_add_right _ _)) (cC_0 _ _ _ _ _) rfl 8 (by decide) (hts (.fieldLink RX11 66 "SeatsRound" "parcels" "LSeatsRound$Parcels;") (List.mem_of_getElem? (i := 3) rfl)) (fun _ h9 => h9) rfl dX11_fall_65 ?_
      refine lv_iload_n hx hb dX11_fall_68 rfl (lv_at hl 1 rfl) ?_
      obtain ⟨r2, σ3, hf4, h⟩ := bsS h
      refine ux_callv (va_runV (As := [.int x1]) (rest := []) ⟨hx, hb, hml, hown, hts⟩ (tX6_empty l dC dI cy ad τ nb hτ σ1 x1 H.size r2 σ3 hf4) (cwV 1 hts gX11_fall_X6_empty rfl rfl rfl (by decide +kernel) ⟨Nat.le_of_ble_eq_true rfl, Nat.le_of_ble_eq_true rfl⟩) (wp_V hK hN hP hD (va_recv hK hP (ci := 6) (q0 := 18) rfl (wG_of (Nat.lt_of_lt_of_le (Nat.le_of_ble_eq_true rfl : 18 < 182) (Nat.le_add_right _ _)) (cC_18 _ _ _ _ _)))) rfl rfl hl.1 rfl (lv_room (Nat.le_of_ble_eq_true rfl)) dX11_fall_69 ⟨Nat.le_of_ble_eq_true rfl, Nat.le_of_ble_eq_true rfl⟩) hD hS hA (fun H locs hP hD hS => ?_)
      refine lv_iload_n hx hb dX11_fall_72 rfl (lv_at hl 3 rfl) ?_
      exact ux_iret hx hb hr h hP hD hS hlocks dX11_fall_73
  have w39 : ∀ (σ : S2) (x1 : Int32) (x2 : Int32) (s0 : Int32) (H : Heap) (locs : List Loc) (ls : Array Slot), fX11_fall_39 τ σ x1 x2 s0 = some (r0, σ9) → va_P (dC, dI) vwCl (wG (cC cy ad τ) ad (182 + 6 * nb) σ) H → va_D A (wG (cC cy ad τ) ad (182 + 6 * nb) σ) → va_S A s.heap H locs → lv_has ls 4 [(0, .ref (ad 0)), (1, .int x1), (2, .int x2)] → W p l e (headSpec wsX11_fall ({ frames := 3, cells := 0, slots := 0, locals := 67 })).room s m (#[.ref (ad 0), .int a1, .int a2]) below meth c H locs 0 0 (MQ below (va_Qi (fun (r : Int32) (_ : Unit) => r = r0) (fun (_ : Unit) t => wAt (dC, dI) A (wG (cC cy ad τ) ad (182 + 6 * nb) σ9) t) A) (#[.ref (ad 0), .int a1, .int a2]) s 0 0 A) (F0 m 39 ls [.int s0]) := by
    intro σ x1 x2 s0 H locs ls h hP hD hS hl
    unfold fX11_fall_39 at h
    refine lv_istore_n (lv' := [(3, .int s0), (0, .ref (ad 0)), (1, .int x1), (2, .int x2)]) hx hb dX11_fall_39 rfl hl (by decide) rfl (fun ls hl => ?_)
    have hl := lv_sub hl [1, 2, 3, 0] (l' := [(0, .ref (ad 0)), (1, .int x1), (2, .int x2), (3, .int s0)]) rfl
    refine lv_aload_n hx hb dX11_fall_40 rfl (lv_at hl 0 rfl) ?_
    refine ux_get (D := (dC, dI)) (ci := 11) (v := .ref (ad 7)) (C := RX11) (T := TX11) (M := 13) (fs := (oSR ad (σ.1 0))) hx hb hts (fun _ h9 => List.mem_cons_of_mem _ (List.mem_append_left _ (List.mem_append_left _ (List.mem_append_right _ h9)))) hown hK hP 0 (Nat.lt_of_lt_of_le (Nat.le_of_ble_eq_true rfl : 0 < 182) (Nat.le_add_right _ _)) (cC_0 _ _ _ _ _) rfl 2 (by decide) (hts (.fieldLink RX11 26 "SeatsRound" "keepers" "LSeatsRound$Keepers;") (List.mem_of_getElem? (i := 1) rfl)) (fun _ h9 => h9) rfl dX11_fall_41 ?_
    refine ux_get (D := (dC, dI)) (ci := 2) (v := .ref (ad 12)) (C := RX2) (T := TX2) (M := 6) (fs := (oKP ad (σ.1 7))) hx hb hts (fun _ h9 => List.mem_cons_of_mem _ (List.mem_append_left _ (List.mem_append_right _ h9))) hown hK hP 7 (Nat.lt_of_lt_of_le (Nat.le_of_ble_eq_true rfl : 7 < 182) (Nat.le_add_right _ _)) (cC_7 _ _ _ _ _) rfl 4 (by decide) (hts (.fieldLink RX11 169 "SeatsRound$Keepers" "fallen" "[Z") (List.mem_of_getElem? (i := 2) rfl)) (fun _ h9 => h9) rfl dX11_fall_44 ?_
    refine lv_iload_n hx hb dX11_fall_47 rfl (lv_at hl 1 rfl) ?_
    refine lv_iload_n hx hb dX11_fall_48 rfl (lv_at hl 2 rfl) ?_
    refine lv_iconst (v := 1) hx hb dX11_fall_49 (by decide) ?_
    refine lv_icmp_ne (tgt := 57) hx hb dX11_fall_50 (by decide) (fun hcd => ?_) (fun hcd => ?_)
    · have h := cdN hcd h
      refine lv_iconst (v := 0) hx hb dX11_fall_57 (by decide) ?_
      exact w58 σ x1 x2 s0 0 x1 H locs ls h hP hD hS hl
    · have h := cdP hcd h
      refine lv_iconst (v := 1) hx hb dX11_fall_53 (by decide) ?_
      refine lv_goto (tgt := 58) hx hb dX11_fall_54 (by decide) ?_
      exact w58 σ x1 x2 s0 1 x1 H locs ls h hP hD hS hl
  have w0 : ∀ (σ : S2) (x1 : Int32) (x2 : Int32) (H : Heap) (locs : List Loc) (ls : Array Slot), fX11_fall_0 τ σ x1 x2 = some (r0, σ9) → va_P (dC, dI) vwCl (wG (cC cy ad τ) ad (182 + 6 * nb) σ) H → va_D A (wG (cC cy ad τ) ad (182 + 6 * nb) σ) → va_S A s.heap H locs → lv_has ls 4 [(0, .ref (ad 0)), (1, .int x1), (2, .int x2)] → W p l e (headSpec wsX11_fall ({ frames := 3, cells := 0, slots := 0, locals := 67 })).room s m (#[.ref (ad 0), .int a1, .int a2]) below meth c H locs 0 0 (MQ below (va_Qi (fun (r : Int32) (_ : Unit) => r = r0) (fun (_ : Unit) t => wAt (dC, dI) A (wG (cC cy ad τ) ad (182 + 6 * nb) σ9) t) A) (#[.ref (ad 0), .int a1, .int a2]) s 0 0 A) (F0 m 0 ls []) := by
    intro σ x1 x2 H locs ls h hP hD hS hl
    unfold fX11_fall_0 at h
    refine lv_aload_n hx hb dX11_fall_0 rfl (lv_at hl 0 rfl) ?_
    refine ux_get (D := (dC, dI)) (ci := 11) (v := .ref (ad 7)) (C := RX11) (T := TX11) (M := 13) (fs := (oSR ad (σ.1 0))) hx hb hts (fun _ h9 => List.mem_cons_of_mem _ (List.mem_append_left _ (List.mem_append_left _ (List.mem_append_right _ h9)))) hown hK hP 0 (Nat.lt_of_lt_of_le (Nat.le_of_ble_eq_true rfl : 0 < 182) (Nat.le_add_right _ _)) (cC_0 _ _ _ _ _) rfl 2 (by decide) (hts (.fieldLink RX11 26 "SeatsRound" "keepers" "LSeatsRound$Keepers;") (List.mem_of_getElem? (i := 1) rfl)) (fun _ h9 => h9) rfl dX11_fall_1 ?_
    refine lv_iload_n hx hb dX11_fall_4 rfl (lv_at hl 1 rfl) ?_
    obtain ⟨r5, hf6, h⟩ := biS h
    refine ux_calli (va_runV (As := [.int x1]) (rest := []) ⟨hx, hb, hml, hown, hts⟩ (tX2_has l dC dI cy ad τ nb hτ σ x1 H.size r5 hf6) (cwV 1 hts gX11_fall_X2_has rfl rfl rfl (by decide +kernel) ⟨Nat.le_of_ble_eq_true rfl, Nat.le_of_ble_eq_true rfl⟩) (wp_V hK hN hP hD (va_recv hK hP (ci := 2) (q0 := 7) rfl (wG_of (Nat.lt_of_lt_of_le (Nat.le_of_ble_eq_true rfl : 7 < 182) (Nat.le_add_right _ _)) (cC_7 _ _ _ _ _)))) rfl rfl hl.1 rfl (lv_room (Nat.le_of_ble_eq_true rfl)) dX11_fall_5 ⟨Nat.le_of_ble_eq_true rfl, Nat.le_of_ble_eq_true rfl⟩) hD hS hA (fun H locs hP hD hS => ?_)
    refine lv_if_eq (tgt := 20) hx hb dX11_fall_8 (by decide) (fun hcd => ?_) (fun hcd => ?_)
    · have h := cdP hcd h
      refine lv_iconst (v := (-1)) hx hb dX11_fall_20 (by decide) ?_
      exact ux_iret hx hb hr h hP hD hS hlocks dX11_fall_21
    · have h := cdN hcd h
      refine lv_iload_n hx hb dX11_fall_11 rfl (lv_at hl 2 rfl) ?_
      refine lv_if_lt (tgt := 20) hx hb dX11_fall_12 (by decide) (fun hcd => ?_) (fun hcd => ?_)
      · have h := cdP hcd h
        refine lv_iconst (v := (-1)) hx hb dX11_fall_20 (by decide) ?_
        exact ux_iret hx hb hr h hP hD hS hlocks dX11_fall_21
      · have h := cdN hcd h
        refine lv_iload_n hx hb dX11_fall_15 rfl (lv_at hl 2 rfl) ?_
        refine lv_iconst (v := 1) hx hb dX11_fall_16 (by decide) ?_
        refine lv_icmp_le (tgt := 22) hx hb dX11_fall_17 (by decide) (fun hcd => ?_) (fun hcd => ?_)
        · have h := cdP hcd h
          refine lv_aload_n hx hb dX11_fall_22 rfl (lv_at hl 0 rfl) ?_
          refine ux_get (D := (dC, dI)) (ci := 11) (v := .ref (ad 7)) (C := RX11) (T := TX11) (M := 13) (fs := (oSR ad (σ.1 0))) hx hb hts (fun _ h9 => List.mem_cons_of_mem _ (List.mem_append_left _ (List.mem_append_left _ (List.mem_append_right _ h9)))) hown hK hP 0 (Nat.lt_of_lt_of_le (Nat.le_of_ble_eq_true rfl : 0 < 182) (Nat.le_add_right _ _)) (cC_0 _ _ _ _ _) rfl 2 (by decide) (hts (.fieldLink RX11 26 "SeatsRound" "keepers" "LSeatsRound$Keepers;") (List.mem_of_getElem? (i := 1) rfl)) (fun _ h9 => h9) rfl dX11_fall_23 ?_
          refine ux_get (D := (dC, dI)) (ci := 2) (v := .ref (ad 12)) (C := RX2) (T := TX2) (M := 6) (fs := (oKP ad (σ.1 7))) hx hb hts (fun _ h9 => List.mem_cons_of_mem _ (List.mem_append_left _ (List.mem_append_right _ h9))) hown hK hP 7 (Nat.lt_of_lt_of_le (Nat.le_of_ble_eq_true rfl : 7 < 182) (Nat.le_add_right _ _)) (cC_7 _ _ _ _ _) rfl 4 (by decide) (hts (.fieldLink RX11 169 "SeatsRound$Keepers" "fallen" "[Z") (List.mem_of_getElem? (i := 2) rfl)) (fun _ h9 => h9) rfl dX11_fall_26 ?_
          refine lv_iload_n hx hb dX11_fall_29 rfl (lv_at hl 1 rfl) ?_
          refine ux_zald hx hb hK hP 12 2 (Nat.lt_of_lt_of_le (Nat.le_of_ble_eq_true rfl : 12 < 182) (Nat.le_add_right _ _)) (cC_12 _ _ _ _ _) rfl h dX11_fall_30 (fun v7 h => ?_)
          refine lv_if_eq (tgt := 38) hx hb dX11_fall_31 (by decide) (fun hcd => ?_) (fun hcd => ?_)
          · have h := cdP hcd h
            refine lv_iconst (v := 0) hx hb dX11_fall_38 (by decide) ?_
            exact w39 σ x1 x2 0 H locs ls h hP hD hS hl
          · have h := cdN hcd h
            refine lv_iconst (v := 1) hx hb dX11_fall_34 (by decide) ?_
            refine lv_goto (tgt := 39) hx hb dX11_fall_35 (by decide) ?_
            exact w39 σ x1 x2 1 H locs ls h hP hD hS hl
        · have h := cdN hcd h
          refine lv_iconst (v := (-1)) hx hb dX11_fall_20 (by decide) ?_
          exact ux_iret hx hb hr h hP hD hS hlocks dX11_fall_21
  intro H locs ls h hP hD hS hl
  exact w0 σ a1 a2 H locs ls h hP hD hS (lv_sub hl [0, 1, 2] rfl)

set_option maxHeartbeats 4000000 in
set_option maxRecDepth 100000 in
theorem tX11_half (l : Launch) (dC : Nat → ClassId) (dI : Nat → Nat → Nat) (cy : Nat → ClassId) (ad : Nat → Nat) (τ nb : Nat) (hτ : τ < nb) (σ : S2) (a1 : Int32) (a2 : Int32) (a3 : Int32) (sz : Nat) (r0 : Int32) (σ9 : S2) (h : fX11_half τ σ a1 a2 a3 = some (r0, σ9)) : Met l yX11_half wsX11_half ({ frames := 3, cells := 0, slots := 0, locals := 69 }) (va_Pc [.ref (ad 0), .int a1, .int a2, .int a3] (wPre (dC, dI) cy (wG (cC cy ad τ) ad (182 + 6 * nb) σ) sz)) (va_Qi (fun (r : Int32) (_ : Unit) => r = r0) (fun (_ : Unit) t => wAt (dC, dI) (va_A (wG (cC cy ad τ) ad (182 + 6 * nb) σ) sz) (wG (cC cy ad τ) ad (182 + 6 * nb) σ9) t) (va_A (wG (cC cy ad τ) ad (182 + 6 * nb) σ) sz)) 0 0 (va_A (wG (cC cy ad τ) ad (182 + 6 * nb) σ) sz) := by
  refine Met.ofW (cc := cX11_half) (maxL := 4) (ret := (some .int)) (by decide) rfl ?_
  intro p e s m args below meth c s₁ B hml hv
  obtain ⟨rfl, hsz, hP, hK, hD0, hN⟩ := hv
  have hx := B.exec
  have hb := B.bytes
  have hr := B.returns
  have hts := atoms_spec (ws := wsX11_half) B.pre
  have hown : s.vm.findClass RX11 = some m.cls := findClass_of_methodNamed B.named
  have hlocks := B.notSynchronized
  subst hsz
  have hD := hD0.self (sz := s.heap.size)
  generalize hAe : va_A (wG (cC cy ad τ) ad (182 + 6 * nb) σ) s.heap.size = A at hD ⊢
  have hA : ∀ q : Nat, s.heap.size ≤ q → A q := fun q h => by rw [← hAe]; exact Or.inr h
  have hS : va_S A s.heap s.heap [] := va_S.rf
  have hl := lv_entry ([.ref (ad 0), .int a1, .int a2, .int a3]) (n := 4) (Nat.le_of_ble_eq_true rfl)
  rw [lg_entry_eq]
  generalize (lg_sl ([.ref (ad 0), .int a1, .int a2, .int a3]) ++ List.replicate (4 - (lg_sl ([.ref (ad 0), .int a1, .int a2, .int a3])).length) Slot.unset).toArray = ls at hl ⊢
  have hl : lv_has ls 4 [(0, .ref (ad 0)), (1, .int a1), (2, .int a2), (3, .int a3)] := hl
  unfold fX11_half at h
  clear hAe hD0
  suffices HH : ∀ (H : Heap) (locs : List Loc) (ls : Array Slot), fX11_half_0 τ σ a1 a2 a3 = some (r0, σ9) → va_P (dC, dI) vwCl (wG (cC cy ad τ) ad (182 + 6 * nb) σ) H → va_D A (wG (cC cy ad τ) ad (182 + 6 * nb) σ) → va_S A s.heap H locs → lv_has ls 4 [(0, .ref (ad 0)), (1, .int a1), (2, .int a2), (3, .int a3)] → W p l e (headSpec wsX11_half ({ frames := 3, cells := 0, slots := 0, locals := 69 })).room s m (#[.ref (ad 0), .int a1, .int a2, .int a3]) below meth c H locs 0 0 (MQ below (va_Qi (fun (r : Int32) (_ : Unit) => r = r0) (fun (_ : Unit) t => wAt (dC, dI) A (wG (cC cy ad τ) ad (182 + 6 * nb) σ9) t) A) (#[.ref (ad 0), .int a1, .int a2, .int a3]) s 0 0 A) (F0 m 0 ls []) from HH s.heap [] ls h hP hD hS hl
  have w0 : ∀ (σ : S2) (x1 : Int32) (x2 : Int32) (x3 : Int32) (H : Heap) (locs : List Loc) (ls : Array Slot), fX11_half_0 τ σ x1 x2 x3 = some (r0, σ9) → va_P (dC, dI) vwCl (wG (cC cy ad τ) ad (182 + 6 * nb) σ) H → va_D A (wG (cC cy ad τ) ad (182 + 6 * nb) σ) → va_S A s.heap H locs → lv_has ls 4 [(0, .ref (ad 0)), (1, .int x1), (2, .int x2), (3, .int x3)] → W p l e (headSpec wsX11_half ({ frames := 3, cells := 0, slots := 0, locals := 69 })).room s m (#[.ref (ad 0), .int a1, .int a2, .int a3]) below meth c H locs 0 0 (MQ below (va_Qi (fun (r : Int32) (_ : Unit) => r = r0) (fun (_ : Unit) t => wAt (dC, dI) A (wG (cC cy ad τ) ad (182 + 6 * nb) σ9) t) A) (#[.ref (ad 0), .int a1, .int a2, .int a3]) s 0 0 A) (F0 m 0 ls []) := by
    intro σ x1 x2 x3 H locs ls h hP hD hS hl
    unfold fX11_half_0 at h
    refine lv_aload_n hx hb dX11_half_0 rfl (lv_at hl 0 rfl) ?_
    refine ux_get (D := (dC, dI)) (ci := 11) (v := .ref (ad 3)) (C := RX11) (T := TX11) (M := 13) (fs := (oSR ad (σ.1 0))) hx hb hts (fun _ h9 => List.mem_cons_of_mem _ (List.mem_append_left _ (List.mem_append_left _ (List.mem_append_left _ (List.mem_append_right _ h9))))) hown hK hP 0 (Nat.lt_of_lt_of_le (Nat.le_of_ble_eq_true rfl : 0 < 182) (Nat.le_add_right _ _)) (cC_0 _ _ _ _ _) rfl 1 (by decide) (hts (.fieldLink RX11 19 "SeatsRound" "nameList" "LSeatsRound$NameList;") (List.mem_of_getElem? (i := 1) rfl)) (fun _ h9 => h9) rfl dX11_half_1 ?_
    refine lv_iload_n hx hb dX11_half_4 rfl (lv_at hl 1 rfl) ?_
    obtain ⟨r1, hf2, h⟩ := biS h
    refine ux_calli (va_runV (As := [.int x1]) (rest := []) ⟨hx, hb, hml, hown, hts⟩ (tX4_has l dC dI cy ad τ nb hτ σ x1 H.size r1 hf2) (cwV 1 hts gX11_half_X4_has rfl rfl rfl (by decide +kernel) ⟨Nat.le_of_ble_eq_true rfl, Nat.le_of_ble_eq_true rfl⟩) (wp_V hK hN hP hD (va_recv hK hP (ci := 4) (q0 := 3) rfl (wG_of (Nat.lt_of_lt_of_le (Nat.le_of_ble_eq_true rfl : 3 < 182) (Nat.le_add_right _ _)) (cC_3 _ _ _ _ _)))) rfl rfl hl.1 rfl (lv_room (Nat.le_of_ble_eq_true rfl)) dX11_half_5 ⟨Nat.le_of_ble_eq_true rfl, Nat.le_of_ble_eq_true rfl⟩) hD hS hA (fun H locs hP hD hS => ?_)
    refine lv_if_eq (tgt := 38) hx hb dX11_half_8 (by decide) (fun hcd => ?_) (fun hcd => ?_)
    · have h := cdP hcd h
      refine lv_iconst (v := (-1)) hx hb dX11_half_38 (by decide) ?_
      exact ux_iret hx hb hr h hP hD hS hlocks dX11_half_39
    · have h := cdN hcd h
      refine lv_aload_n hx hb dX11_half_11 rfl (lv_at hl 0 rfl) ?_
      refine ux_get (D := (dC, dI)) (ci := 11) (v := .ref (ad 7)) (C := RX11) (T := TX11) (M := 13) (fs := (oSR ad (σ.1 0))) hx hb hts (fun _ h9 => List.mem_cons_of_mem _ (List.mem_append_left _ (List.mem_append_left _ (List.mem_append_left _ (List.mem_append_right _ h9))))) hown hK hP 0 (Nat.lt_of_lt_of_le (Nat.le_of_ble_eq_true rfl : 0 < 182) (Nat.le_add_right _ _)) (cC_0 _ _ _ _ _) rfl 2 (by decide) (hts (.fieldLink RX11 26 "SeatsRound" "keepers" "LSeatsRound$Keepers;") (List.mem_of_getElem? (i := 2) rfl)) (fun _ h9 => h9) rfl dX11_half_12 ?_
      refine lv_iload_n hx hb dX11_half_15 rfl (lv_at hl 2 rfl) ?_
      obtain ⟨r3, hf4, h⟩ := biS h
      refine ux_calli (va_runV (As := [.int x2]) (rest := []) ⟨hx, hb, hml, hown, hts⟩ (tX2_has l dC dI cy ad τ nb hτ σ x2 H.size r3 hf4) (cwV 1 hts gX11_half_X2_has rfl rfl rfl (by decide +kernel) ⟨Nat.le_of_ble_eq_true rfl, Nat.le_of_ble_eq_true rfl⟩) (wp_V hK hN hP hD (va_recv hK hP (ci := 2) (q0 := 7) rfl (wG_of (Nat.lt_of_lt_of_le (Nat.le_of_ble_eq_true rfl : 7 < 182) (Nat.le_add_right _ _)) (cC_7 _ _ _ _ _)))) rfl rfl hl.1 rfl (lv_room (Nat.le_of_ble_eq_true rfl)) dX11_half_16 ⟨Nat.le_of_ble_eq_true rfl, Nat.le_of_ble_eq_true rfl⟩) hD hS hA (fun H locs hP hD hS => ?_)
      refine lv_if_eq (tgt := 38) hx hb dX11_half_19 (by decide) (fun hcd => ?_) (fun hcd => ?_)
      · have h := cdP hcd h
        refine lv_iconst (v := (-1)) hx hb dX11_half_38 (by decide) ?_
        exact ux_iret hx hb hr h hP hD hS hlocks dX11_half_39
      · have h := cdN hcd h
        refine lv_aload_n hx hb dX11_half_22 rfl (lv_at hl 0 rfl) ?_
        refine ux_get (D := (dC, dI)) (ci := 11) (v := .ref (ad 7)) (C := RX11) (T := TX11) (M := 13) (fs := (oSR ad (σ.1 0))) hx hb hts (fun _ h9 => List.mem_cons_of_mem _ (List.mem_append_left _ (List.mem_append_left _ (List.mem_append_left _ (List.mem_append_right _ h9))))) hown hK hP 0 (Nat.lt_of_lt_of_le (Nat.le_of_ble_eq_true rfl : 0 < 182) (Nat.le_add_right _ _)) (cC_0 _ _ _ _ _) rfl 2 (by decide) (hts (.fieldLink RX11 26 "SeatsRound" "keepers" "LSeatsRound$Keepers;") (List.mem_of_getElem? (i := 2) rfl)) (fun _ h9 => h9) rfl dX11_half_23 ?_
        refine lv_iload_n hx hb dX11_half_26 rfl (lv_at hl 3 rfl) ?_
        obtain ⟨r5, hf6, h⟩ := biS h
        refine ux_calli (va_runV (As := [.int x3]) (rest := []) ⟨hx, hb, hml, hown, hts⟩ (tX2_has l dC dI cy ad τ nb hτ σ x3 H.size r5 hf6) (cwV 1 hts gX11_half_X2_has rfl rfl rfl (by decide +kernel) ⟨Nat.le_of_ble_eq_true rfl, Nat.le_of_ble_eq_true rfl⟩) (wp_V hK hN hP hD (va_recv hK hP (ci := 2) (q0 := 7) rfl (wG_of (Nat.lt_of_lt_of_le (Nat.le_of_ble_eq_true rfl : 7 < 182) (Nat.le_add_right _ _)) (cC_7 _ _ _ _ _)))) rfl rfl hl.1 rfl (lv_room (Nat.le_of_ble_eq_true rfl)) dX11_half_27 ⟨Nat.le_of_ble_eq_true rfl, Nat.le_of_ble_eq_true rfl⟩) hD hS hA (fun H locs hP hD hS => ?_)
        refine lv_if_eq (tgt := 38) hx hb dX11_half_30 (by decide) (fun hcd => ?_) (fun hcd => ?_)
        · have h := cdP hcd h
          refine lv_iconst (v := (-1)) hx hb dX11_half_38 (by decide) ?_
          exact ux_iret hx hb hr h hP hD hS hlocks dX11_half_39
        · have h := cdN hcd h
          refine lv_iload_n hx hb dX11_half_33 rfl (lv_at hl 2 rfl) ?_
          refine lv_iload_n hx hb dX11_half_34 rfl (lv_at hl 3 rfl) ?_
          refine lv_icmp_ne (tgt := 40) hx hb dX11_half_35 (by decide) (fun hcd => ?_) (fun hcd => ?_)
          · have h := cdN hcd h
            refine lv_aload_n hx hb dX11_half_40 rfl (lv_at hl 0 rfl) ?_
            refine ux_get (D := (dC, dI)) (ci := 11) (v := .ref (ad 18)) (C := RX11) (T := TX11) (M := 13) (fs := (oSR ad (σ.1 0))) hx hb hts (fun _ h9 => List.mem_cons_of_mem _ (List.mem_append_left _ (List.mem_append_left _ (List.mem_append_left _ (List.mem_append_right _ h9))))) hown hK hP 0 (Nat.lt_of_lt_of_le (Nat.le_of_ble_eq_true rfl : 0 < 182) (Nat.le_add_right _ _)) (cC_0 _ _ _ _ _) rfl 8 (by decide) (hts (.fieldLink RX11 66 "SeatsRound" "parcels" "LSeatsRound$Parcels;") (List.mem_of_getElem? (i := 3) rfl)) (fun _ h9 => h9) rfl dX11_half_41 ?_
            refine ux_get (D := (dC, dI)) (ci := 6) (v := .ref (ad 19)) (C := RX6) (T := TX6) (M := 12) (fs := (oPC ad (σ.1 18))) hx hb hts (fun _ h9 => List.mem_cons_of_mem _ (List.mem_append_left _ (List.mem_append_left _ (List.mem_append_right _ h9)))) hown hK hP 18 (Nat.lt_of_lt_of_le (Nat.le_of_ble_eq_true rfl : 18 < 182) (Nat.le_add_right _ _)) (cC_18 _ _ _ _ _) rfl 0 (by decide) (hts (.fieldLink RX11 277 "SeatsRound$Parcels" "version" "[[I") (List.mem_of_getElem? (i := 4) rfl)) (fun _ h9 => h9) rfl dX11_half_44 ?_
            refine lv_iload_n hx hb dX11_half_47 rfl (lv_at hl 2 rfl) ?_
            obtain ⟨hii7, h⟩ := ckS h
            have hri7 := vp_lt hii7
            refine vz_aldg hx hb hK hP 19 6 (wG_of (Nat.lt_of_lt_of_le (Nat.le_of_ble_eq_true rfl : 19 < 182) (Nat.le_add_right _ _)) (cC_19 _ _ _ _ _)) rfl hii7 (if_pos hri7) dX11_half_48 ?_
            refine lv_iload_n hx hb dX11_half_49 rfl (lv_at hl 1 rfl) ?_
            refine ux_iald hx hb hK hP (84 + Int32.toNatClampNeg x2) 0 (by omega) (cC_r1 _ _ _ _ _ _ (by omega)) rfl h dX11_half_50 (fun v8 h => ?_)
            refine lv_if_ne (tgt := 57) hx hb dX11_half_51 (by decide) (fun hcd => ?_) (fun hcd => ?_)
            · have h := cdN hcd h
              refine lv_aload_n hx hb dX11_half_57 rfl (lv_at hl 0 rfl) ?_
              refine ux_get (D := (dC, dI)) (ci := 11) (v := .ref (ad 18)) (C := RX11) (T := TX11) (M := 13) (fs := (oSR ad (σ.1 0))) hx hb hts (fun _ h9 => List.mem_cons_of_mem _ (List.mem_append_left _ (List.mem_append_left _ (List.mem_append_left _ (List.mem_append_right _ h9))))) hown hK hP 0 (Nat.lt_of_lt_of_le (Nat.le_of_ble_eq_true rfl : 0 < 182) (Nat.le_add_right _ _)) (cC_0 _ _ _ _ _) rfl 8 (by decide) (hts (.fieldLink RX11 66 "SeatsRound" "parcels" "LSeatsRound$Parcels;") (List.mem_of_getElem? (i := 3) rfl)) (fun _ h9 => h9) rfl dX11_half_58 ?_
              refine lv_iload_n hx hb dX11_half_61 rfl (lv_at hl 1 rfl) ?_
              refine lv_iload_n hx hb dX11_half_62 rfl (lv_at hl 2 rfl) ?_
              refine lv_iload_n hx hb dX11_half_63 rfl (lv_at hl 3 rfl) ?_
              obtain ⟨r9, σ10, hf11, h⟩ := bsS h
              refine ux_calli (va_runV (As := [.int x1, .int x2, .int x3]) (rest := []) ⟨hx, hb, hml, hown, hts⟩ (tX6_movePiece l dC dI cy ad τ nb hτ σ x1 x2 x3 H.size r9 σ10 hf11) (cwV 3 hts gX11_half_X6_movePiece rfl rfl rfl (by decide +kernel) ⟨Nat.le_of_ble_eq_true rfl, Nat.le_of_ble_eq_true rfl⟩) (wp_V hK hN hP hD (va_recv hK hP (ci := 6) (q0 := 18) rfl (wG_of (Nat.lt_of_lt_of_le (Nat.le_of_ble_eq_true rfl : 18 < 182) (Nat.le_add_right _ _)) (cC_18 _ _ _ _ _)))) rfl rfl hl.1 rfl (lv_room (Nat.le_of_ble_eq_true rfl)) dX11_half_64 ⟨Nat.le_of_ble_eq_true rfl, Nat.le_of_ble_eq_true rfl⟩) hD hS hA (fun H locs hP hD hS => ?_)
              exact ux_iret hx hb hr h hP hD hS hlocks dX11_half_67
            · have h := cdP hcd h
              refine lv_bipush (v := (-2)) hx hb dX11_half_54 (by decide) ?_
              exact ux_iret hx hb hr h hP hD hS hlocks dX11_half_56
          · have h := cdP hcd h
            refine lv_iconst (v := (-1)) hx hb dX11_half_38 (by decide) ?_
            exact ux_iret hx hb hr h hP hD hS hlocks dX11_half_39
  intro H locs ls h hP hD hS hl
  exact w0 σ a1 a2 a3 H locs ls h hP hD hS (lv_sub hl [0, 1, 2, 3] rfl)

set_option maxHeartbeats 4000000 in
set_option maxRecDepth 100000 in
theorem tX11_mend (l : Launch) (dC : Nat → ClassId) (dI : Nat → Nat → Nat) (cy : Nat → ClassId) (ad : Nat → Nat) (τ nb : Nat) (hτ : τ < nb) (σ : S2) (a1 : Int32) (sz : Nat) (r0 : Int32) (σ9 : S2) (h : fX11_mend τ σ a1 = some (r0, σ9)) : Met l yX11_mend wsX11_mend ({ frames := 7, cells := 0, slots := 0, locals := 162 }) (va_Pc [.ref (ad 0), .int a1] (wPre (dC, dI) cy (wG (cC cy ad τ) ad (182 + 6 * nb) σ) sz)) (va_Qi (fun (r : Int32) (_ : Unit) => r = r0) (fun (_ : Unit) t => wAt (dC, dI) (va_A (wG (cC cy ad τ) ad (182 + 6 * nb) σ) sz) (wG (cC cy ad τ) ad (182 + 6 * nb) σ9) t) (va_A (wG (cC cy ad τ) ad (182 + 6 * nb) σ) sz)) 0 0 (va_A (wG (cC cy ad τ) ad (182 + 6 * nb) σ) sz) := by
  refine Met.ofW (cc := cX11_mend) (maxL := 3) (ret := (some .int)) (by decide) rfl ?_
  intro p e s m args below meth c s₁ B hml hv
  obtain ⟨rfl, hsz, hP, hK, hD0, hN⟩ := hv
  have hx := B.exec
  have hb := B.bytes
  have hr := B.returns
  have hts := atoms_spec (ws := wsX11_mend) B.pre
  have hown : s.vm.findClass RX11 = some m.cls := findClass_of_methodNamed B.named
  have hlocks := B.notSynchronized
  subst hsz
  have hD := hD0.self (sz := s.heap.size)
  generalize hAe : va_A (wG (cC cy ad τ) ad (182 + 6 * nb) σ) s.heap.size = A at hD ⊢
  have hA : ∀ q : Nat, s.heap.size ≤ q → A q := fun q h => by rw [← hAe]; exact Or.inr h
  have hS : va_S A s.heap s.heap [] := va_S.rf
  have hl := lv_entry ([.ref (ad 0), .int a1]) (n := 3) (Nat.le_of_ble_eq_true rfl)
  rw [lg_entry_eq]
  generalize (lg_sl ([.ref (ad 0), .int a1]) ++ List.replicate (3 - (lg_sl ([.ref (ad 0), .int a1])).length) Slot.unset).toArray = ls at hl ⊢
  have hl : lv_has ls 3 [(0, .ref (ad 0)), (1, .int a1)] := hl
  unfold fX11_mend at h
  clear hAe hD0
  suffices HH : ∀ (H : Heap) (locs : List Loc) (ls : Array Slot), fX11_mend_0 τ σ a1 = some (r0, σ9) → va_P (dC, dI) vwCl (wG (cC cy ad τ) ad (182 + 6 * nb) σ) H → va_D A (wG (cC cy ad τ) ad (182 + 6 * nb) σ) → va_S A s.heap H locs → lv_has ls 3 [(0, .ref (ad 0)), (1, .int a1)] → W p l e (headSpec wsX11_mend ({ frames := 7, cells := 0, slots := 0, locals := 162 })).room s m (#[.ref (ad 0), .int a1]) below meth c H locs 0 0 (MQ below (va_Qi (fun (r : Int32) (_ : Unit) => r = r0) (fun (_ : Unit) t => wAt (dC, dI) A (wG (cC cy ad τ) ad (182 + 6 * nb) σ9) t) A) (#[.ref (ad 0), .int a1]) s 0 0 A) (F0 m 0 ls []) from HH s.heap [] ls h hP hD hS hl
  have w0 : ∀ (σ : S2) (x1 : Int32) (H : Heap) (locs : List Loc) (ls : Array Slot), fX11_mend_0 τ σ x1 = some (r0, σ9) → va_P (dC, dI) vwCl (wG (cC cy ad τ) ad (182 + 6 * nb) σ) H → va_D A (wG (cC cy ad τ) ad (182 + 6 * nb) σ) → va_S A s.heap H locs → lv_has ls 3 [(0, .ref (ad 0)), (1, .int x1)] → W p l e (headSpec wsX11_mend ({ frames := 7, cells := 0, slots := 0, locals := 162 })).room s m (#[.ref (ad 0), .int a1]) below meth c H locs 0 0 (MQ below (va_Qi (fun (r : Int32) (_ : Unit) => r = r0) (fun (_ : Unit) t => wAt (dC, dI) A (wG (cC cy ad τ) ad (182 + 6 * nb) σ9) t) A) (#[.ref (ad 0), .int a1]) s 0 0 A) (F0 m 0 ls []) := by
    intro σ x1 H locs ls h hP hD hS hl
    unfold fX11_mend_0 at h
    refine lv_aload_n hx hb dX11_mend_0 rfl (lv_at hl 0 rfl) ?_
    refine lv_iload_n hx hb dX11_mend_1 rfl (lv_at hl 1 rfl) ?_
    rcases btS h with ⟨hf1, h⟩ | ⟨b2, hf1, h⟩
    · have _ := hτ
      refine ux_callqN (va_runV (As := [.int x1]) (rest := []) ⟨hx, hb, hml, hown, hts⟩ (tX11_tableAt l dC dI cy ad τ nb hτ σ x1 H.size none hf1) (cwV 1 hts gX11_mend_X11_tableAt rfl rfl rfl (by decide +kernel) ⟨Nat.le_of_ble_eq_true rfl, Nat.le_of_ble_eq_true rfl⟩) (wp_V hK hN hP hD (va_recv hK hP (ci := 11) (q0 := 0) rfl (wG_of (Nat.lt_of_lt_of_le (Nat.le_of_ble_eq_true rfl : 0 < 182) (Nat.le_add_right _ _)) (cC_0 _ _ _ _ _)))) rfl rfl hl.1 rfl (lv_room (Nat.le_of_ble_eq_true rfl)) dX11_mend_2 ⟨Nat.le_of_ble_eq_true rfl, Nat.le_of_ble_eq_true rfl⟩) ?_
      refine lv_astore_nN (lv' := [(2, .null), (0, .ref (ad 0)), (1, .int x1)]) hx hb dX11_mend_5 rfl hl (by decide) rfl (fun ls hl => ?_)
      have hl := lv_sub hl [1, 2, 0] (l' := [(0, .ref (ad 0)), (1, .int x1), (2, .null)]) rfl
      refine lv_aload_nN hx hb dX11_mend_6 rfl (lv_at hl 2 rfl) ?_
      refine lv_ifnonnullN hx hb dX11_mend_7 ?_
      refine lv_iconst (v := (-1)) hx hb dX11_mend_10 (by decide) ?_
      exact ux_iret hx hb hr h hP hD hS hlocks dX11_mend_11
    · have hb2 : b2 < nb := ux_tabB hτ hf1
      refine ux_callqS (va_runV (As := [.int x1]) (rest := []) ⟨hx, hb, hml, hown, hts⟩ (tX11_tableAt l dC dI cy ad τ nb hτ σ x1 H.size (some b2) hf1) (cwV 1 hts gX11_mend_X11_tableAt rfl rfl rfl (by decide +kernel) ⟨Nat.le_of_ble_eq_true rfl, Nat.le_of_ble_eq_true rfl⟩) (wp_V hK hN hP hD (va_recv hK hP (ci := 11) (q0 := 0) rfl (wG_of (Nat.lt_of_lt_of_le (Nat.le_of_ble_eq_true rfl : 0 < 182) (Nat.le_add_right _ _)) (cC_0 _ _ _ _ _)))) rfl rfl hl.1 rfl (lv_room (Nat.le_of_ble_eq_true rfl)) dX11_mend_2 ⟨Nat.le_of_ble_eq_true rfl, Nat.le_of_ble_eq_true rfl⟩) ?_
      refine lv_astore_n (lv' := [(2, .ref (ad (182 + 6 * b2))), (0, .ref (ad 0)), (1, .int x1)]) hx hb dX11_mend_5 rfl hl (by decide) rfl (fun ls hl => ?_)
      have hl := lv_sub hl [1, 2, 0] (l' := [(0, .ref (ad 0)), (1, .int x1), (2, .ref (ad (182 + 6 * b2)))]) rfl
      refine lv_aload_n hx hb dX11_mend_6 rfl (lv_at hl 2 rfl) ?_
      refine lv_ifnonnull (tgt := 12) hx hb dX11_mend_7 (by decide) ?_
      refine lv_aload_n hx hb dX11_mend_12 rfl (lv_at hl 0 rfl) ?_
      refine ux_get (D := (dC, dI)) (ci := 11) (v := .ref (ad 18)) (C := RX11) (T := TX11) (M := 13) (fs := (oSR ad (σ.1 0))) hx hb hts (fun _ h9 => List.mem_cons_of_mem _ (List.mem_append_left _ (List.mem_append_left _ (List.mem_append_left _ (List.mem_append_left _ (List.mem_append_left _ (List.mem_append_right _ h9))))))) hown hK hP 0 (Nat.lt_of_lt_of_le (Nat.le_of_ble_eq_true rfl : 0 < 182) (Nat.le_add_right _ _)) (cC_0 _ _ _ _ _) rfl 8 (by decide) (hts (.fieldLink RX11 66 "SeatsRound" "parcels" "LSeatsRound$Parcels;") (List.mem_of_getElem? (i := 1) rfl)) (fun _ h9 => h9) rfl dX11_mend_13 ?_
      refine lv_aload_n hx hb dX11_mend_16 rfl (lv_at hl 2 rfl) ?_
      obtain ⟨r3, σ4, hf5, h⟩ := bsS h
      refine ux_calli (va_runV (As := [.ref (ad (182 + 6 * b2))]) (rest := []) ⟨hx, hb, hml, hown, hts⟩ (tX6_mendAll l dC dI cy ad τ nb hτ b2 (by omega) σ H.size r3 σ4 hf5) (cwV 1 hts gX11_mend_X6_mendAll rfl rfl rfl (by decide +kernel) ⟨Nat.le_of_ble_eq_true rfl, Nat.le_of_ble_eq_true rfl⟩) (wp_V hK hN hP hD (va_recv hK hP (ci := 6) (q0 := 18) rfl (wG_of (Nat.lt_of_lt_of_le (Nat.le_of_ble_eq_true rfl : 18 < 182) (Nat.le_add_right _ _)) (cC_18 _ _ _ _ _)))) rfl rfl hl.1 rfl (lv_room (Nat.le_of_ble_eq_true rfl)) dX11_mend_17 ⟨Nat.le_of_ble_eq_true rfl, Nat.le_of_ble_eq_true rfl⟩) hD hS hA (fun H locs hP hD hS => ?_)
      exact ux_iret hx hb hr h hP hD hS hlocks dX11_mend_20
  intro H locs ls h hP hD hS hl
  exact w0 σ a1 H locs ls h hP hD hS (lv_sub hl [0, 1] rfl)

set_option maxHeartbeats 4000000 in
set_option maxRecDepth 100000 in
theorem tX11_trees (l : Launch) (dC : Nat → ClassId) (dI : Nat → Nat → Nat) (cy : Nat → ClassId) (ad : Nat → Nat) (τ nb : Nat) (hτ : τ < nb) (σ : S2) (a1 : Int32) (a2 : Int32) (a3 : Int32) (sz : Nat) (r0 : Int32) (σ9 : S2) (h : fX11_trees τ σ a1 a2 a3 = some (r0, σ9)) : Met l yX11_trees wsX11_trees ({ frames := 4, cells := 0, slots := 0, locals := 91 }) (va_Pc [.ref (ad 0), .int a1, .int a2, .int a3] (wPre (dC, dI) cy (wG (cC cy ad τ) ad (182 + 6 * nb) σ) sz)) (va_Qi (fun (r : Int32) (_ : Unit) => r = r0) (fun (_ : Unit) t => wAt (dC, dI) (va_A (wG (cC cy ad τ) ad (182 + 6 * nb) σ) sz) (wG (cC cy ad τ) ad (182 + 6 * nb) σ9) t) (va_A (wG (cC cy ad τ) ad (182 + 6 * nb) σ) sz)) 0 0 (va_A (wG (cC cy ad τ) ad (182 + 6 * nb) σ) sz) := by
  refine Met.ofW (cc := cX11_trees) (maxL := 4) (ret := (some .int)) (by decide) rfl ?_
  intro p e s m args below meth c s₁ B hml hv
  obtain ⟨rfl, hsz, hP, hK, hD0, hN⟩ := hv
  have hx := B.exec
  have hb := B.bytes
  have hr := B.returns
  have hts := atoms_spec (ws := wsX11_trees) B.pre
  have hown : s.vm.findClass RX11 = some m.cls := findClass_of_methodNamed B.named
  have hlocks := B.notSynchronized
  subst hsz
  have hD := hD0.self (sz := s.heap.size)
  generalize hAe : va_A (wG (cC cy ad τ) ad (182 + 6 * nb) σ) s.heap.size = A at hD ⊢
  have hA : ∀ q : Nat, s.heap.size ≤ q → A q := fun q h => by rw [← hAe]; exact Or.inr h
  have hS : va_S A s.heap s.heap [] := va_S.rf
  have hl := lv_entry ([.ref (ad 0), .int a1, .int a2, .int a3]) (n := 4) (Nat.le_of_ble_eq_true rfl)
  rw [lg_entry_eq]
  generalize (lg_sl ([.ref (ad 0), .int a1, .int a2, .int a3]) ++ List.replicate (4 - (lg_sl ([.ref (ad 0), .int a1, .int a2, .int a3])).length) Slot.unset).toArray = ls at hl ⊢
  have hl : lv_has ls 4 [(0, .ref (ad 0)), (1, .int a1), (2, .int a2), (3, .int a3)] := hl
  unfold fX11_trees at h
  clear hAe hD0
  suffices HH : ∀ (H : Heap) (locs : List Loc) (ls : Array Slot), fX11_trees_0 τ σ a1 a2 a3 = some (r0, σ9) → va_P (dC, dI) vwCl (wG (cC cy ad τ) ad (182 + 6 * nb) σ) H → va_D A (wG (cC cy ad τ) ad (182 + 6 * nb) σ) → va_S A s.heap H locs → lv_has ls 4 [(0, .ref (ad 0)), (1, .int a1), (2, .int a2), (3, .int a3)] → W p l e (headSpec wsX11_trees ({ frames := 4, cells := 0, slots := 0, locals := 91 })).room s m (#[.ref (ad 0), .int a1, .int a2, .int a3]) below meth c H locs 0 0 (MQ below (va_Qi (fun (r : Int32) (_ : Unit) => r = r0) (fun (_ : Unit) t => wAt (dC, dI) A (wG (cC cy ad τ) ad (182 + 6 * nb) σ9) t) A) (#[.ref (ad 0), .int a1, .int a2, .int a3]) s 0 0 A) (F0 m 0 ls []) from HH s.heap [] ls h hP hD hS hl
  have w0 : ∀ (σ : S2) (x1 : Int32) (x2 : Int32) (x3 : Int32) (H : Heap) (locs : List Loc) (ls : Array Slot), fX11_trees_0 τ σ x1 x2 x3 = some (r0, σ9) → va_P (dC, dI) vwCl (wG (cC cy ad τ) ad (182 + 6 * nb) σ) H → va_D A (wG (cC cy ad τ) ad (182 + 6 * nb) σ) → va_S A s.heap H locs → lv_has ls 4 [(0, .ref (ad 0)), (1, .int x1), (2, .int x2), (3, .int x3)] → W p l e (headSpec wsX11_trees ({ frames := 4, cells := 0, slots := 0, locals := 91 })).room s m (#[.ref (ad 0), .int a1, .int a2, .int a3]) below meth c H locs 0 0 (MQ below (va_Qi (fun (r : Int32) (_ : Unit) => r = r0) (fun (_ : Unit) t => wAt (dC, dI) A (wG (cC cy ad τ) ad (182 + 6 * nb) σ9) t) A) (#[.ref (ad 0), .int a1, .int a2, .int a3]) s 0 0 A) (F0 m 0 ls []) := by
    intro σ x1 x2 x3 H locs ls h hP hD hS hl
    unfold fX11_trees_0 at h
    refine lv_aload_n hx hb dX11_trees_0 rfl (lv_at hl 0 rfl) ?_
    refine ux_get (D := (dC, dI)) (ci := 11) (v := .ref (ad 7)) (C := RX11) (T := TX11) (M := 13) (fs := (oSR ad (σ.1 0))) hx hb hts (fun _ h9 => List.mem_cons_of_mem _ (List.mem_append_left _ (List.mem_append_left _ (List.mem_append_left _ (List.mem_append_right _ h9))))) hown hK hP 0 (Nat.lt_of_lt_of_le (Nat.le_of_ble_eq_true rfl : 0 < 182) (Nat.le_add_right _ _)) (cC_0 _ _ _ _ _) rfl 2 (by decide) (hts (.fieldLink RX11 26 "SeatsRound" "keepers" "LSeatsRound$Keepers;") (List.mem_of_getElem? (i := 1) rfl)) (fun _ h9 => h9) rfl dX11_trees_1 ?_
    refine lv_iload_n hx hb dX11_trees_4 rfl (lv_at hl 1 rfl) ?_
    obtain ⟨r1, hf2, h⟩ := biS h
    refine ux_calli (va_runV (As := [.int x1]) (rest := []) ⟨hx, hb, hml, hown, hts⟩ (tX2_has l dC dI cy ad τ nb hτ σ x1 H.size r1 hf2) (cwV 1 hts gX11_trees_X2_has rfl rfl rfl (by decide +kernel) ⟨Nat.le_of_ble_eq_true rfl, Nat.le_of_ble_eq_true rfl⟩) (wp_V hK hN hP hD (va_recv hK hP (ci := 2) (q0 := 7) rfl (wG_of (Nat.lt_of_lt_of_le (Nat.le_of_ble_eq_true rfl : 7 < 182) (Nat.le_add_right _ _)) (cC_7 _ _ _ _ _)))) rfl rfl hl.1 rfl (lv_room (Nat.le_of_ble_eq_true rfl)) dX11_trees_5 ⟨Nat.le_of_ble_eq_true rfl, Nat.le_of_ble_eq_true rfl⟩) hD hS hA (fun H locs hP hD hS => ?_)
    refine lv_if_eq (tgt := 27) hx hb dX11_trees_8 (by decide) (fun hcd => ?_) (fun hcd => ?_)
    · have h := cdP hcd h
      refine lv_iconst (v := (-1)) hx hb dX11_trees_27 (by decide) ?_
      exact ux_iret hx hb hr h hP hD hS hlocks dX11_trees_28
    · have h := cdN hcd h
      refine lv_aload_n hx hb dX11_trees_11 rfl (lv_at hl 0 rfl) ?_
      refine ux_get (D := (dC, dI)) (ci := 11) (v := .ref (ad 7)) (C := RX11) (T := TX11) (M := 13) (fs := (oSR ad (σ.1 0))) hx hb hts (fun _ h9 => List.mem_cons_of_mem _ (List.mem_append_left _ (List.mem_append_left _ (List.mem_append_left _ (List.mem_append_right _ h9))))) hown hK hP 0 (Nat.lt_of_lt_of_le (Nat.le_of_ble_eq_true rfl : 0 < 182) (Nat.le_add_right _ _)) (cC_0 _ _ _ _ _) rfl 2 (by decide) (hts (.fieldLink RX11 26 "SeatsRound" "keepers" "LSeatsRound$Keepers;") (List.mem_of_getElem? (i := 1) rfl)) (fun _ h9 => h9) rfl dX11_trees_12 ?_
      refine lv_iload_n hx hb dX11_trees_15 rfl (lv_at hl 2 rfl) ?_
      obtain ⟨r3, hf4, h⟩ := biS h
      refine ux_calli (va_runV (As := [.int x2]) (rest := []) ⟨hx, hb, hml, hown, hts⟩ (tX2_has l dC dI cy ad τ nb hτ σ x2 H.size r3 hf4) (cwV 1 hts gX11_trees_X2_has rfl rfl rfl (by decide +kernel) ⟨Nat.le_of_ble_eq_true rfl, Nat.le_of_ble_eq_true rfl⟩) (wp_V hK hN hP hD (va_recv hK hP (ci := 2) (q0 := 7) rfl (wG_of (Nat.lt_of_lt_of_le (Nat.le_of_ble_eq_true rfl : 7 < 182) (Nat.le_add_right _ _)) (cC_7 _ _ _ _ _)))) rfl rfl hl.1 rfl (lv_room (Nat.le_of_ble_eq_true rfl)) dX11_trees_16 ⟨Nat.le_of_ble_eq_true rfl, Nat.le_of_ble_eq_true rfl⟩) hD hS hA (fun H locs hP hD hS => ?_)
      refine lv_if_eq (tgt := 27) hx hb dX11_trees_19 (by decide) (fun hcd => ?_) (fun hcd => ?_)
      · have h := cdP hcd h
        refine lv_iconst (v := (-1)) hx hb dX11_trees_27 (by decide) ?_
        exact ux_iret hx hb hr h hP hD hS hlocks dX11_trees_28
      · have h := cdN hcd h
        refine lv_iload_n hx hb dX11_trees_22 rfl (lv_at hl 1 rfl) ?_
        refine lv_iload_n hx hb dX11_trees_23 rfl (lv_at hl 2 rfl) ?_
        refine lv_icmp_ne (tgt := 29) hx hb dX11_trees_24 (by decide) (fun hcd => ?_) (fun hcd => ?_)
        · have h := cdN hcd h
          refine lv_iload_n hx hb dX11_trees_29 rfl (lv_at hl 3 rfl) ?_
          refine lv_if_lt (tgt := 38) hx hb dX11_trees_30 (by decide) (fun hcd => ?_) (fun hcd => ?_)
          · have h := cdP hcd h
            refine lv_iconst (v := (-1)) hx hb dX11_trees_38 (by decide) ?_
            exact ux_iret hx hb hr h hP hD hS hlocks dX11_trees_39
          · have h := cdN hcd h
            refine lv_iload_n hx hb dX11_trees_33 rfl (lv_at hl 3 rfl) ?_
            refine lv_iconst (v := 1) hx hb dX11_trees_34 (by decide) ?_
            refine lv_icmp_le (tgt := 40) hx hb dX11_trees_35 (by decide) (fun hcd => ?_) (fun hcd => ?_)
            · have h := cdP hcd h
              refine lv_aload_n hx hb dX11_trees_40 rfl (lv_at hl 0 rfl) ?_
              refine ux_get (D := (dC, dI)) (ci := 11) (v := .ref (ad 18)) (C := RX11) (T := TX11) (M := 13) (fs := (oSR ad (σ.1 0))) hx hb hts (fun _ h9 => List.mem_cons_of_mem _ (List.mem_append_left _ (List.mem_append_left _ (List.mem_append_left _ (List.mem_append_right _ h9))))) hown hK hP 0 (Nat.lt_of_lt_of_le (Nat.le_of_ble_eq_true rfl : 0 < 182) (Nat.le_add_right _ _)) (cC_0 _ _ _ _ _) rfl 8 (by decide) (hts (.fieldLink RX11 66 "SeatsRound" "parcels" "LSeatsRound$Parcels;") (List.mem_of_getElem? (i := 2) rfl)) (fun _ h9 => h9) rfl dX11_trees_41 ?_
              refine lv_iload_n hx hb dX11_trees_44 rfl (lv_at hl 1 rfl) ?_
              refine lv_iload_n hx hb dX11_trees_45 rfl (lv_at hl 2 rfl) ?_
              obtain ⟨r5, σ6, hf7, h⟩ := bsS h
              refine ux_callv (va_runV (As := [.int x1, .int x2]) (rest := []) ⟨hx, hb, hml, hown, hts⟩ (tX6_compare l dC dI cy ad τ nb hτ σ x1 x2 H.size r5 σ6 hf7) (cwV 2 hts gX11_trees_X6_compare rfl rfl rfl (by decide +kernel) ⟨Nat.le_of_ble_eq_true rfl, Nat.le_of_ble_eq_true rfl⟩) (wp_V hK hN hP hD (va_recv hK hP (ci := 6) (q0 := 18) rfl (wG_of (Nat.lt_of_lt_of_le (Nat.le_of_ble_eq_true rfl : 18 < 182) (Nat.le_add_right _ _)) (cC_18 _ _ _ _ _)))) rfl rfl hl.1 rfl (lv_room (Nat.le_of_ble_eq_true rfl)) dX11_trees_46 ⟨Nat.le_of_ble_eq_true rfl, Nat.le_of_ble_eq_true rfl⟩) hD hS hA (fun H locs hP hD hS => ?_)
              refine lv_iload_n hx hb dX11_trees_49 rfl (lv_at hl 3 rfl) ?_
              refine lv_if_ne (tgt := 63) hx hb dX11_trees_50 (by decide) (fun hcd => ?_) (fun hcd => ?_)
              · have h := cdN hcd h
                refine lv_aload_n hx hb dX11_trees_63 rfl (lv_at hl 0 rfl) ?_
                refine ux_get (D := (dC, dI)) (ci := 11) (v := .ref (ad 18)) (C := RX11) (T := TX11) (M := 13) (fs := (oSR ad (σ6.1 0))) hx hb hts (fun _ h9 => List.mem_cons_of_mem _ (List.mem_append_left _ (List.mem_append_left _ (List.mem_append_left _ (List.mem_append_right _ h9))))) hown hK hP 0 (Nat.lt_of_lt_of_le (Nat.le_of_ble_eq_true rfl : 0 < 182) (Nat.le_add_right _ _)) (cC_0 _ _ _ _ _) rfl 8 (by decide) (hts (.fieldLink RX11 66 "SeatsRound" "parcels" "LSeatsRound$Parcels;") (List.mem_of_getElem? (i := 2) rfl)) (fun _ h9 => h9) rfl dX11_trees_64 ?_
                obtain ⟨r8, hf9, h⟩ := biS h
                refine ux_calli (va_runV (As := []) (rest := []) ⟨hx, hb, hml, hown, hts⟩ (tX6_unlikeLeaves l dC dI cy ad τ nb hτ σ6 H.size r8 hf9) (cwV 0 hts gX11_trees_X6_unlikeLeaves rfl rfl rfl (by decide +kernel) ⟨Nat.le_of_ble_eq_true rfl, Nat.le_of_ble_eq_true rfl⟩) (wp_V hK hN hP hD (va_recv hK hP (ci := 6) (q0 := 18) rfl (wG_of (Nat.lt_of_lt_of_le (Nat.le_of_ble_eq_true rfl : 18 < 182) (Nat.le_add_right _ _)) (cC_18 _ _ _ _ _)))) rfl rfl hl.1 rfl (lv_room (Nat.le_of_ble_eq_true rfl)) dX11_trees_67 ⟨Nat.le_of_ble_eq_true rfl, Nat.le_of_ble_eq_true rfl⟩) hD hS hA (fun H locs hP hD hS => ?_)
                exact ux_iret hx hb hr h hP hD hS hlocks dX11_trees_70
              · have h := cdP hcd h
                refine lv_aload_n hx hb dX11_trees_53 rfl (lv_at hl 0 rfl) ?_
                refine ux_get (D := (dC, dI)) (ci := 11) (v := .ref (ad 18)) (C := RX11) (T := TX11) (M := 13) (fs := (oSR ad (σ6.1 0))) hx hb hts (fun _ h9 => List.mem_cons_of_mem _ (List.mem_append_left _ (List.mem_append_left _ (List.mem_append_left _ (List.mem_append_right _ h9))))) hown hK hP 0 (Nat.lt_of_lt_of_le (Nat.le_of_ble_eq_true rfl : 0 < 182) (Nat.le_add_right _ _)) (cC_0 _ _ _ _ _) rfl 8 (by decide) (hts (.fieldLink RX11 66 "SeatsRound" "parcels" "LSeatsRound$Parcels;") (List.mem_of_getElem? (i := 2) rfl)) (fun _ h9 => h9) rfl dX11_trees_54 ?_
                obtain ⟨r10, hf11, h⟩ := biS h
                refine ux_calli (va_runV (As := []) (rest := []) ⟨hx, hb, hml, hown, hts⟩ (tX6_wordsAsked l dC dI cy ad τ nb hτ σ6 H.size r10 hf11) (cwV 0 hts gX11_trees_X6_wordsAsked rfl rfl rfl (by decide +kernel) ⟨Nat.le_of_ble_eq_true rfl, Nat.le_of_ble_eq_true rfl⟩) (wp_V hK hN hP hD (va_recv hK hP (ci := 6) (q0 := 18) rfl (wG_of (Nat.lt_of_lt_of_le (Nat.le_of_ble_eq_true rfl : 18 < 182) (Nat.le_add_right _ _)) (cC_18 _ _ _ _ _)))) rfl rfl hl.1 rfl (lv_room (Nat.le_of_ble_eq_true rfl)) dX11_trees_57 ⟨Nat.le_of_ble_eq_true rfl, Nat.le_of_ble_eq_true rfl⟩) hD hS hA (fun H locs hP hD hS => ?_)
                refine lv_goto (tgt := 70) hx hb dX11_trees_60 (by decide) ?_
                exact ux_iret hx hb hr h hP hD hS hlocks dX11_trees_70
            · have h := cdN hcd h
              refine lv_iconst (v := (-1)) hx hb dX11_trees_38 (by decide) ?_
              exact ux_iret hx hb hr h hP hD hS hlocks dX11_trees_39
        · have h := cdP hcd h
          refine lv_iconst (v := (-1)) hx hb dX11_trees_27 (by decide) ?_
          exact ux_iret hx hb hr h hP hD hS hlocks dX11_trees_28
  intro H locs ls h hP hD hS hl
  exact w0 σ a1 a2 a3 H locs ls h hP hD hS (lv_sub hl [0, 1, 2, 3] rfl)

set_option maxHeartbeats 4000000 in
set_option maxRecDepth 100000 in
theorem tX11_upward (l : Launch) (dC : Nat → ClassId) (dI : Nat → Nat → Nat) (cy : Nat → ClassId) (ad : Nat → Nat) (τ nb : Nat) (hτ : τ < nb) (σ : S2) (a0 : Int32) (a1 : Int32) (sz : Nat) (r0 : Int32) (h : fX11_upward τ σ a0 a1 = some r0) : Met l yX11_upward wsX11_upward ({ frames := 1, cells := 0, slots := 0, locals := 23 }) (va_Pc [.int a0, .int a1] (wPre (dC, dI) cy (wG (cC cy ad τ) ad (182 + 6 * nb) σ) sz)) (va_Qi (fun (r : Int32) (_ : Unit) => r = r0) (fun (_ : Unit) t => wAt (dC, dI) (va_A (wG (cC cy ad τ) ad (182 + 6 * nb) σ) sz) (wG (cC cy ad τ) ad (182 + 6 * nb) σ) t) (va_A (wG (cC cy ad τ) ad (182 + 6 * nb) σ) sz)) 0 0 (va_A (wG (cC cy ad τ) ad (182 + 6 * nb) σ) sz) := by
  refine Met.ofW (cc := cX11_upward) (maxL := 2) (ret := (some .int)) (by decide) rfl ?_
  intro p e s m args below meth c s₁ B hml hv
  obtain ⟨rfl, hsz, hP, hK, hD0, hN⟩ := hv
  have hx := B.exec
  have hb := B.bytes
  have hr := B.returns
  have hts := atoms_spec (ws := wsX11_upward) B.pre
  have hown : s.vm.findClass RX11 = some m.cls := findClass_of_methodNamed B.named
  have hlocks := B.notSynchronized
  subst hsz
  have hD := hD0.self (sz := s.heap.size)
  generalize hAe : va_A (wG (cC cy ad τ) ad (182 + 6 * nb) σ) s.heap.size = A at hD ⊢
  have hA : ∀ q : Nat, s.heap.size ≤ q → A q := fun q h => by rw [← hAe]; exact Or.inr h
  have hS : va_S A s.heap s.heap [] := va_S.rf
  have hl := lv_entry ([.int a0, .int a1]) (n := 2) (Nat.le_of_ble_eq_true rfl)
  rw [lg_entry_eq]
  generalize (lg_sl ([.int a0, .int a1]) ++ List.replicate (2 - (lg_sl ([.int a0, .int a1])).length) Slot.unset).toArray = ls at hl ⊢
  have hl : lv_has ls 2 [(0, .int a0), (1, .int a1)] := hl
  unfold fX11_upward at h
  clear hAe hD0
  suffices HH : ∀ (H : Heap) (locs : List Loc) (ls : Array Slot), fX11_upward_0 τ σ a0 a1 = some r0 → va_P (dC, dI) vwCl (wG (cC cy ad τ) ad (182 + 6 * nb) σ) H → va_D A (wG (cC cy ad τ) ad (182 + 6 * nb) σ) → va_S A s.heap H locs → lv_has ls 2 [(0, .int a0), (1, .int a1)] → W p l e (headSpec wsX11_upward ({ frames := 1, cells := 0, slots := 0, locals := 23 })).room s m (#[.int a0, .int a1]) below meth c H locs 0 0 (MQ below (va_Qi (fun (r : Int32) (_ : Unit) => r = r0) (fun (_ : Unit) t => wAt (dC, dI) A (wG (cC cy ad τ) ad (182 + 6 * nb) σ) t) A) (#[.int a0, .int a1]) s 0 0 A) (F0 m 0 ls []) from HH s.heap [] ls h hP hD hS hl
  have w0 : ∀ (σ : S2) (x0 : Int32) (x1 : Int32) (H : Heap) (locs : List Loc) (ls : Array Slot), fX11_upward_0 τ σ x0 x1 = some r0 → va_P (dC, dI) vwCl (wG (cC cy ad τ) ad (182 + 6 * nb) σ) H → va_D A (wG (cC cy ad τ) ad (182 + 6 * nb) σ) → va_S A s.heap H locs → lv_has ls 2 [(0, .int x0), (1, .int x1)] → W p l e (headSpec wsX11_upward ({ frames := 1, cells := 0, slots := 0, locals := 23 })).room s m (#[.int a0, .int a1]) below meth c H locs 0 0 (MQ below (va_Qi (fun (r : Int32) (_ : Unit) => r = r0) (fun (_ : Unit) t => wAt (dC, dI) A (wG (cC cy ad τ) ad (182 + 6 * nb) σ) t) A) (#[.int a0, .int a1]) s 0 0 A) (F0 m 0 ls []) := by
    intro σ x0 x1 H locs ls h hP hD hS hl
    unfold fX11_upward_0 at h
    refine lv_iload_n hx hb dX11_upward_0 rfl (lv_at hl 1 rfl) ?_
    refine lv_if_le (tgt := 14) hx hb dX11_upward_1 (by decide) (fun hcd => ?_) (fun hcd => ?_)
    · have h := cdP hcd h
      refine lv_iconst (v := 0) hx hb dX11_upward_14 (by decide) ?_
      exact ux_iretP hx hb hr h hP hD hS hlocks dX11_upward_15
    · have h := cdN hcd h
      refine lv_iload_n hx hb dX11_upward_4 rfl (lv_at hl 0 rfl) ?_
      refine lv_iload_n hx hb dX11_upward_5 rfl (lv_at hl 1 rfl) ?_
      refine lv_iadd hx hb dX11_upward_6 ?_
      refine lv_iconst (v := 1) hx hb dX11_upward_7 (by decide) ?_
      refine lv_isub hx hb dX11_upward_8 ?_
      refine lv_iload_n hx hb dX11_upward_9 rfl (lv_at hl 1 rfl) ?_
      obtain ⟨hz1, h⟩ := dzS h
      refine lv_idiv hx hb dX11_upward_10 hz1 ?_
      refine lv_goto (tgt := 15) hx hb dX11_upward_11 (by decide) ?_
      exact ux_iretP hx hb hr h hP hD hS hlocks dX11_upward_15
  intro H locs ls h hP hD hS hl
  exact w0 σ a0 a1 H locs ls h hP hD hS (lv_sub hl [0, 1] rfl)

set_option maxHeartbeats 4000000 in
set_option maxRecDepth 100000 in
theorem tX11_noon (l : Launch) (dC : Nat → ClassId) (dI : Nat → Nat → Nat) (cy : Nat → ClassId) (ad : Nat → Nat) (τ nb : Nat) (hτ : τ < nb) (σ : S2) (a1 : Int32) (a2 : Int32) (a3 : Int32) (sz : Nat) (r0 : Int32) (h : fX11_noon τ σ a1 a2 a3 = some r0) : Met l yX11_noon wsX11_noon ({ frames := 2, cells := 0, slots := 0, locals := 44 }) (va_Pc [.ref (ad 0), .int a1, .int a2, .int a3] (wPre (dC, dI) cy (wG (cC cy ad τ) ad (182 + 6 * nb) σ) sz)) (va_Qi (fun (r : Int32) (_ : Unit) => r = r0) (fun (_ : Unit) t => wAt (dC, dI) (va_A (wG (cC cy ad τ) ad (182 + 6 * nb) σ) sz) (wG (cC cy ad τ) ad (182 + 6 * nb) σ) t) (va_A (wG (cC cy ad τ) ad (182 + 6 * nb) σ) sz)) 0 0 (va_A (wG (cC cy ad τ) ad (182 + 6 * nb) σ) sz) := by
  refine Met.ofW (cc := cX11_noon) (maxL := 7) (ret := (some .int)) (by decide) rfl ?_
  intro p e s m args below meth c s₁ B hml hv
  obtain ⟨rfl, hsz, hP, hK, hD0, hN⟩ := hv
  have hx := B.exec
  have hb := B.bytes
  have hr := B.returns
  have hts := atoms_spec (ws := wsX11_noon) B.pre
  have hown : s.vm.findClass RX11 = some m.cls := findClass_of_methodNamed B.named
  have hlocks := B.notSynchronized
  subst hsz
  have hD := hD0.self (sz := s.heap.size)
  generalize hAe : va_A (wG (cC cy ad τ) ad (182 + 6 * nb) σ) s.heap.size = A at hD ⊢
  have hA : ∀ q : Nat, s.heap.size ≤ q → A q := fun q h => by rw [← hAe]; exact Or.inr h
  have hS : va_S A s.heap s.heap [] := va_S.rf
  have hl := lv_entry ([.ref (ad 0), .int a1, .int a2, .int a3]) (n := 7) (Nat.le_of_ble_eq_true rfl)
  rw [lg_entry_eq]
  generalize (lg_sl ([.ref (ad 0), .int a1, .int a2, .int a3]) ++ List.replicate (7 - (lg_sl ([.ref (ad 0), .int a1, .int a2, .int a3])).length) Slot.unset).toArray = ls at hl ⊢
  have hl : lv_has ls 7 [(0, .ref (ad 0)), (1, .int a1), (2, .int a2), (3, .int a3)] := hl
  unfold fX11_noon at h
  clear hAe hD0
  suffices HH : ∀ (H : Heap) (locs : List Loc) (ls : Array Slot), fX11_noon_0 τ σ a1 a2 a3 = some r0 → va_P (dC, dI) vwCl (wG (cC cy ad τ) ad (182 + 6 * nb) σ) H → va_D A (wG (cC cy ad τ) ad (182 + 6 * nb) σ) → va_S A s.heap H locs → lv_has ls 7 [(0, .ref (ad 0)), (1, .int a1), (2, .int a2), (3, .int a3)] → W p l e (headSpec wsX11_noon ({ frames := 2, cells := 0, slots := 0, locals := 44 })).room s m (#[.ref (ad 0), .int a1, .int a2, .int a3]) below meth c H locs 0 0 (MQ below (va_Qi (fun (r : Int32) (_ : Unit) => r = r0) (fun (_ : Unit) t => wAt (dC, dI) A (wG (cC cy ad τ) ad (182 + 6 * nb) σ) t) A) (#[.ref (ad 0), .int a1, .int a2, .int a3]) s 0 0 A) (F0 m 0 ls []) from HH s.heap [] ls h hP hD hS hl
  have w49 : ∀ (n : Nat), ∀ (σ : S2) (x2 : Int32) (x3 : Int32) (x5 : Int32) (x6 : Int32) (H : Heap) (locs : List Loc) (ls : Array Slot), fX11_noon_49 τ n σ x2 x3 x5 x6 = some r0 → va_P (dC, dI) vwCl (wG (cC cy ad τ) ad (182 + 6 * nb) σ) H → va_D A (wG (cC cy ad τ) ad (182 + 6 * nb) σ) → va_S A s.heap H locs → lv_has ls 7 [(2, .int x2), (3, .int x3), (5, .int x5), (6, .int x6)] → W p l e (headSpec wsX11_noon ({ frames := 2, cells := 0, slots := 0, locals := 44 })).room s m (#[.ref (ad 0), .int a1, .int a2, .int a3]) below meth c H locs 0 0 (MQ below (va_Qi (fun (r : Int32) (_ : Unit) => r = r0) (fun (_ : Unit) t => wAt (dC, dI) A (wG (cC cy ad τ) ad (182 + 6 * nb) σ) t) A) (#[.ref (ad 0), .int a1, .int a2, .int a3]) s 0 0 A) (F0 m 49 ls []) := by
    intro n
    induction n with
    | zero => intro σ x2 x3 x5 x6 H locs ls h; cases h
    | succ n ih =>
    intro σ x2 x3 x5 x6 H locs ls h hP hD hS hl
    unfold fX11_noon_49 at h
    refine lv_iload hx hb dX11_noon_49 (lv_at hl 3 rfl) ?_
    refine lv_iload hx hb dX11_noon_51 (lv_at hl 2 rfl) ?_
    refine lv_icmp_gt (tgt := 75) hx hb dX11_noon_53 (by decide) (fun hcd => ?_) (fun hcd => ?_)
    · have h := cdP hcd h
      refine lv_bipush (v := (-2)) hx hb dX11_noon_75 (by decide) ?_
      exact ux_iretP hx hb hr h hP hD hS hlocks dX11_noon_77
    · have h := cdN hcd h
      refine lv_iload_n hx hb dX11_noon_56 rfl (lv_at hl 0 rfl) ?_
      refine lv_iload hx hb dX11_noon_57 (lv_at hl 3 rfl) ?_
      obtain ⟨r1, hf2, h⟩ := biS h
      refine ux_calli (va_runS (As := [.int x2, .int x6]) (rest := []) ⟨hx, hb, hml, hown, hts⟩ (tX11_upward l dC dI cy ad τ nb hτ σ x2 x6 H.size r1 hf2) (va_cwS 2 hts gX11_noon_X11_upward rfl rfl rfl (by decide +kernel) ⟨Nat.le_of_ble_eq_true rfl, Nat.le_of_ble_eq_true rfl⟩) (wp_S hK hN hP hD) rfl rfl hl.1 rfl (lv_room (Nat.le_of_ble_eq_true rfl)) dX11_noon_59 ⟨Nat.le_of_ble_eq_true rfl, Nat.le_of_ble_eq_true rfl⟩) hD hS hA (fun H locs hP hD hS => ?_)
      refine lv_iload_n hx hb dX11_noon_62 rfl (lv_at hl 1 rfl) ?_
      refine lv_icmp_gt (tgt := 69) hx hb dX11_noon_63 (by decide) (fun hcd => ?_) (fun hcd => ?_)
      · have h := cdP hcd h
        obtain ⟨v3, ev3⟩ : ∃ y : Int32, y = x6 + 1 := ⟨_, rfl⟩
        have h := nmS h ev3
        refine lv_iinc (v := v3) (lv' := [(6, .int v3), (2, .int x2), (3, .int x3), (5, .int x5)]) hx hb dX11_noon_69 hl (k := 3) rfl (by rw [ev3]; rfl) (by decide) rfl (fun ls hl => ?_)
        have hl := lv_sub hl [1, 2, 3, 0] (l' := [(2, .int x2), (3, .int x3), (5, .int x5), (6, .int v3)]) rfl
        refine lv_goto (tgt := 49) hx hb dX11_noon_72 (by decide) ?_
        exact ih σ x2 x3 x5 v3 H locs ls h hP hD hS hl
      · have h := cdN hcd h
        refine lv_iload hx hb dX11_noon_66 (lv_at hl 3 rfl) ?_
        exact ux_iretP hx hb hr h hP hD hS hlocks dX11_noon_68
  have w0 : ∀ (σ : S2) (x1 : Int32) (x2 : Int32) (x3 : Int32) (H : Heap) (locs : List Loc) (ls : Array Slot), fX11_noon_0 τ σ x1 x2 x3 = some r0 → va_P (dC, dI) vwCl (wG (cC cy ad τ) ad (182 + 6 * nb) σ) H → va_D A (wG (cC cy ad τ) ad (182 + 6 * nb) σ) → va_S A s.heap H locs → lv_has ls 7 [(0, .ref (ad 0)), (1, .int x1), (2, .int x2), (3, .int x3)] → W p l e (headSpec wsX11_noon ({ frames := 2, cells := 0, slots := 0, locals := 44 })).room s m (#[.ref (ad 0), .int a1, .int a2, .int a3]) below meth c H locs 0 0 (MQ below (va_Qi (fun (r : Int32) (_ : Unit) => r = r0) (fun (_ : Unit) t => wAt (dC, dI) A (wG (cC cy ad τ) ad (182 + 6 * nb) σ) t) A) (#[.ref (ad 0), .int a1, .int a2, .int a3]) s 0 0 A) (F0 m 0 ls []) := by
    intro σ x1 x2 x3 H locs ls h hP hD hS hl
    unfold fX11_noon_0 at h
    refine lv_aload_n hx hb dX11_noon_0 rfl (lv_at hl 0 rfl) ?_
    refine lv_iload_n hx hb dX11_noon_1 rfl (lv_at hl 1 rfl) ?_
    rcases btS h with ⟨hf4, h⟩ | ⟨b5, hf4, h⟩
    · have _ := hτ
      refine ux_callqN (va_runV (As := [.int x1]) (rest := []) ⟨hx, hb, hml, hown, hts⟩ (tX11_tableAt l dC dI cy ad τ nb hτ σ x1 H.size none hf4) (cwV 1 hts gX11_noon_X11_tableAt rfl rfl rfl (by decide +kernel) ⟨Nat.le_of_ble_eq_true rfl, Nat.le_of_ble_eq_true rfl⟩) (wp_V hK hN hP hD (va_recv hK hP (ci := 11) (q0 := 0) rfl (wG_of (Nat.lt_of_lt_of_le (Nat.le_of_ble_eq_true rfl : 0 < 182) (Nat.le_add_right _ _)) (cC_0 _ _ _ _ _)))) rfl rfl hl.1 rfl (lv_room (Nat.le_of_ble_eq_true rfl)) dX11_noon_2 ⟨Nat.le_of_ble_eq_true rfl, Nat.le_of_ble_eq_true rfl⟩) ?_
      refine lv_astoreN (lv' := [(4, .null), (0, .ref (ad 0)), (1, .int x1), (2, .int x2), (3, .int x3)]) hx hb dX11_noon_5 hl (by decide) rfl (fun ls hl => ?_)
      have hl := lv_sub hl [1, 2, 3, 4, 0] (l' := [(0, .ref (ad 0)), (1, .int x1), (2, .int x2), (3, .int x3), (4, .null)]) rfl
      refine lv_aloadN hx hb dX11_noon_7 (lv_at hl 4 rfl) ?_
      refine lv_ifnullN (tgt := 34) hx hb dX11_noon_9 (by decide) ?_
      refine lv_iconst (v := (-1)) hx hb dX11_noon_34 (by decide) ?_
      exact ux_iretP hx hb hr h hP hD hS hlocks dX11_noon_35
    · have hb5 : b5 < nb := ux_tabB hτ hf4
      refine ux_callqS (va_runV (As := [.int x1]) (rest := []) ⟨hx, hb, hml, hown, hts⟩ (tX11_tableAt l dC dI cy ad τ nb hτ σ x1 H.size (some b5) hf4) (cwV 1 hts gX11_noon_X11_tableAt rfl rfl rfl (by decide +kernel) ⟨Nat.le_of_ble_eq_true rfl, Nat.le_of_ble_eq_true rfl⟩) (wp_V hK hN hP hD (va_recv hK hP (ci := 11) (q0 := 0) rfl (wG_of (Nat.lt_of_lt_of_le (Nat.le_of_ble_eq_true rfl : 0 < 182) (Nat.le_add_right _ _)) (cC_0 _ _ _ _ _)))) rfl rfl hl.1 rfl (lv_room (Nat.le_of_ble_eq_true rfl)) dX11_noon_2 ⟨Nat.le_of_ble_eq_true rfl, Nat.le_of_ble_eq_true rfl⟩) ?_
      refine lv_astore (lv' := [(4, .ref (ad (182 + 6 * b5))), (0, .ref (ad 0)), (1, .int x1), (2, .int x2), (3, .int x3)]) hx hb dX11_noon_5 hl (by decide) rfl (fun ls hl => ?_)
      have hl := lv_sub hl [1, 2, 3, 4, 0] (l' := [(0, .ref (ad 0)), (1, .int x1), (2, .int x2), (3, .int x3), (4, .ref (ad (182 + 6 * b5)))]) rfl
      refine lv_aload hx hb dX11_noon_7 (lv_at hl 4 rfl) ?_
      refine lv_ifnull hx hb dX11_noon_9 ?_
      refine lv_iload_n hx hb dX11_noon_12 rfl (lv_at hl 2 rfl) ?_
      refine lv_if_lt (tgt := 34) hx hb dX11_noon_13 (by decide) (fun hcd => ?_) (fun hcd => ?_)
      · have h := cdP hcd h
        refine lv_iconst (v := (-1)) hx hb dX11_noon_34 (by decide) ?_
        exact ux_iretP hx hb hr h hP hD hS hlocks dX11_noon_35
      · have h := cdN hcd h
        refine lv_iload_n hx hb dX11_noon_16 rfl (lv_at hl 2 rfl) ?_
        refine lv_sipush (v := 9999) hx hb dX11_noon_17 (by decide) ?_
        refine lv_icmp_gt (tgt := 34) hx hb dX11_noon_20 (by decide) (fun hcd => ?_) (fun hcd => ?_)
        · have h := cdP hcd h
          refine lv_iconst (v := (-1)) hx hb dX11_noon_34 (by decide) ?_
          exact ux_iretP hx hb hr h hP hD hS hlocks dX11_noon_35
        · have h := cdN hcd h
          refine lv_iload_n hx hb dX11_noon_23 rfl (lv_at hl 3 rfl) ?_
          refine lv_if_lt (tgt := 34) hx hb dX11_noon_24 (by decide) (fun hcd => ?_) (fun hcd => ?_)
          · have h := cdP hcd h
            refine lv_iconst (v := (-1)) hx hb dX11_noon_34 (by decide) ?_
            exact ux_iretP hx hb hr h hP hD hS hlocks dX11_noon_35
          · have h := cdN hcd h
            refine lv_iload_n hx hb dX11_noon_27 rfl (lv_at hl 3 rfl) ?_
            refine lv_sipush (v := 9999) hx hb dX11_noon_28 (by decide) ?_
            refine lv_icmp_le (tgt := 36) hx hb dX11_noon_31 (by decide) (fun hcd => ?_) (fun hcd => ?_)
            · have h := cdP hcd h
              refine lv_aload hx hb dX11_noon_36 (lv_at hl 4 rfl) ?_
              refine ux_get (D := (dC, dI)) (ci := 8) (v := .int (σ.1 (182 + 6 * b5) 0)) (C := RX8) (T := TX8) (M := 13) (fs := (oTB ad (182 + 6 * b5) (σ.1 (182 + 6 * b5)))) hx hb hts (fun _ h9 => List.mem_cons_of_mem _ (List.mem_append_left _ (List.mem_append_right _ h9))) hown hK hP (182 + 6 * b5) (by omega) (cC_t0 _ _ _ _ _ b5) rfl 0 (by decide) (hts (.fieldLink RX11 196 "SeatsRound$Table" "members" "I") (List.mem_of_getElem? (i := 1) rfl)) (fun _ h9 => h9) rfl dX11_noon_38 ?_
              obtain ⟨r6, hf7, h⟩ := biS h
              refine ux_calli (va_runS (As := [.int (σ.1 (182 + 6 * b5) 0)]) (rest := []) ⟨hx, hb, hml, hown, hts⟩ (tJ6_bitCount_0f7a4 l dC dI cy ad τ nb hτ σ (σ.1 (182 + 6 * b5) 0) H.size r6 hf7) (va_cwS 1 hts gX11_noon_J6_bitCount_0f7a4 rfl rfl rfl (by decide +kernel) ⟨Nat.le_of_ble_eq_true rfl, Nat.le_of_ble_eq_true rfl⟩) (wp_S hK hN hP hD) rfl rfl hl.1 rfl (lv_room (Nat.le_of_ble_eq_true rfl)) dX11_noon_41 ⟨Nat.le_of_ble_eq_true rfl, Nat.le_of_ble_eq_true rfl⟩) hD hS hA (fun H locs hP hD hS => ?_)
              refine lv_istore (lv' := [(5, .int r6), (0, .ref (ad 0)), (1, .int x1), (2, .int x2), (3, .int x3), (4, .ref (ad (182 + 6 * b5)))]) hx hb dX11_noon_44 hl (by decide) rfl (fun ls hl => ?_)
              have hl := lv_sub hl [1, 2, 3, 4, 5, 0] (l' := [(0, .ref (ad 0)), (1, .int x1), (2, .int x2), (3, .int x3), (4, .ref (ad (182 + 6 * b5))), (5, .int r6)]) rfl
              refine lv_iconst (v := 1) hx hb dX11_noon_46 (by decide) ?_
              refine lv_istore (lv' := [(6, .int 1), (0, .ref (ad 0)), (1, .int x1), (2, .int x2), (3, .int x3), (4, .ref (ad (182 + 6 * b5))), (5, .int r6)]) hx hb dX11_noon_47 hl (by decide) rfl (fun ls hl => ?_)
              have hl := lv_sub hl [1, 2, 3, 4, 5, 6, 0] (l' := [(0, .ref (ad 0)), (1, .int x1), (2, .int x2), (3, .int x3), (4, .ref (ad (182 + 6 * b5))), (5, .int r6), (6, .int 1)]) rfl
              exact w49 FU σ x2 x3 r6 1 H locs ls h hP hD hS (lv_sub hl [2, 3, 5, 6] rfl)
            · have h := cdN hcd h
              refine lv_iconst (v := (-1)) hx hb dX11_noon_34 (by decide) ?_
              exact ux_iretP hx hb hr h hP hD hS hlocks dX11_noon_35
  intro H locs ls h hP hD hS hl
  exact w0 σ a1 a2 a3 H locs ls h hP hD hS (lv_sub hl [0, 1, 2, 3] rfl)

set_option maxHeartbeats 4000000 in
set_option maxRecDepth 100000 in
theorem tX11_lies (l : Launch) (dC : Nat → ClassId) (dI : Nat → Nat → Nat) (cy : Nat → ClassId) (ad : Nat → Nat) (τ nb : Nat) (hτ : τ < nb) (σ : S2) (a1 : Int32) (a2 : Int32) (a3 : Int32) (a4 : Int32) (sz : Nat) (r0 : Int32) (h : fX11_lies τ σ a1 a2 a3 a4 = some r0) : Met l yX11_lies wsX11_lies ({ frames := 2, cells := 0, slots := 0, locals := 44 }) (va_Pc [.ref (ad 0), .int a1, .int a2, .int a3, .int a4] (wPre (dC, dI) cy (wG (cC cy ad τ) ad (182 + 6 * nb) σ) sz)) (va_Qi (fun (r : Int32) (_ : Unit) => r = r0) (fun (_ : Unit) t => wAt (dC, dI) (va_A (wG (cC cy ad τ) ad (182 + 6 * nb) σ) sz) (wG (cC cy ad τ) ad (182 + 6 * nb) σ) t) (va_A (wG (cC cy ad τ) ad (182 + 6 * nb) σ) sz)) 0 0 (va_A (wG (cC cy ad τ) ad (182 + 6 * nb) σ) sz) := by
  refine Met.ofW (cc := cX11_lies) (maxL := 7) (ret := (some .int)) (by decide) rfl ?_
  intro p e s m args below meth c s₁ B hml hv
  obtain ⟨rfl, hsz, hP, hK, hD0, hN⟩ := hv
  have hx := B.exec
  have hb := B.bytes
  have hr := B.returns
  have hts := atoms_spec (ws := wsX11_lies) B.pre
  have hown : s.vm.findClass RX11 = some m.cls := findClass_of_methodNamed B.named
  have hlocks := B.notSynchronized
  subst hsz
  have hD := hD0.self (sz := s.heap.size)
  generalize hAe : va_A (wG (cC cy ad τ) ad (182 + 6 * nb) σ) s.heap.size = A at hD ⊢
  have hA : ∀ q : Nat, s.heap.size ≤ q → A q := fun q h => by rw [← hAe]; exact Or.inr h
  have hS : va_S A s.heap s.heap [] := va_S.rf
  have hl := lv_entry ([.ref (ad 0), .int a1, .int a2, .int a3, .int a4]) (n := 7) (Nat.le_of_ble_eq_true rfl)
  rw [lg_entry_eq]
  generalize (lg_sl ([.ref (ad 0), .int a1, .int a2, .int a3, .int a4]) ++ List.replicate (7 - (lg_sl ([.ref (ad 0), .int a1, .int a2, .int a3, .int a4])).length) Slot.unset).toArray = ls at hl ⊢
  have hl : lv_has ls 7 [(0, .ref (ad 0)), (1, .int a1), (2, .int a2), (3, .int a3), (4, .int a4)] := hl
  unfold fX11_lies at h
  clear hAe hD0
  suffices HH : ∀ (H : Heap) (locs : List Loc) (ls : Array Slot), fX11_lies_0 τ σ a1 a2 a3 a4 = some r0 → va_P (dC, dI) vwCl (wG (cC cy ad τ) ad (182 + 6 * nb) σ) H → va_D A (wG (cC cy ad τ) ad (182 + 6 * nb) σ) → va_S A s.heap H locs → lv_has ls 7 [(0, .ref (ad 0)), (1, .int a1), (2, .int a2), (3, .int a3), (4, .int a4)] → W p l e (headSpec wsX11_lies ({ frames := 2, cells := 0, slots := 0, locals := 44 })).room s m (#[.ref (ad 0), .int a1, .int a2, .int a3, .int a4]) below meth c H locs 0 0 (MQ below (va_Qi (fun (r : Int32) (_ : Unit) => r = r0) (fun (_ : Unit) t => wAt (dC, dI) A (wG (cC cy ad τ) ad (182 + 6 * nb) σ) t) A) (#[.ref (ad 0), .int a1, .int a2, .int a3, .int a4]) s 0 0 A) (F0 m 0 ls []) from HH s.heap [] ls h hP hD hS hl
  have w0 : ∀ (σ : S2) (x1 : Int32) (x2 : Int32) (x3 : Int32) (x4 : Int32) (H : Heap) (locs : List Loc) (ls : Array Slot), fX11_lies_0 τ σ x1 x2 x3 x4 = some r0 → va_P (dC, dI) vwCl (wG (cC cy ad τ) ad (182 + 6 * nb) σ) H → va_D A (wG (cC cy ad τ) ad (182 + 6 * nb) σ) → va_S A s.heap H locs → lv_has ls 7 [(0, .ref (ad 0)), (1, .int x1), (2, .int x2), (3, .int x3), (4, .int x4)] → W p l e (headSpec wsX11_lies ({ frames := 2, cells := 0, slots := 0, locals := 44 })).room s m (#[.ref (ad 0), .int a1, .int a2, .int a3, .int a4]) below meth c H locs 0 0 (MQ below (va_Qi (fun (r : Int32) (_ : Unit) => r = r0) (fun (_ : Unit) t => wAt (dC, dI) A (wG (cC cy ad τ) ad (182 + 6 * nb) σ) t) A) (#[.ref (ad 0), .int a1, .int a2, .int a3, .int a4]) s 0 0 A) (F0 m 0 ls []) := by
    intro σ x1 x2 x3 x4 H locs ls h hP hD hS hl
    unfold fX11_lies_0 at h
    refine lv_aload_n hx hb dX11_lies_0 rfl (lv_at hl 0 rfl) ?_
    refine ux_get (D := (dC, dI)) (ci := 11) (v := .ref (ad 7)) (C := RX11) (T := TX11) (M := 13) (fs := (oSR ad (σ.1 0))) hx hb hts (fun _ h9 => List.mem_cons_of_mem _ (List.mem_append_left _ (List.mem_append_right _ h9))) hown hK hP 0 (Nat.lt_of_lt_of_le (Nat.le_of_ble_eq_true rfl : 0 < 182) (Nat.le_add_right _ _)) (cC_0 _ _ _ _ _) rfl 2 (by decide) (hts (.fieldLink RX11 26 "SeatsRound" "keepers" "LSeatsRound$Keepers;") (List.mem_of_getElem? (i := 1) rfl)) (fun _ h9 => h9) rfl dX11_lies_1 ?_
    refine lv_iload_n hx hb dX11_lies_4 rfl (lv_at hl 1 rfl) ?_
    obtain ⟨r1, hf2, h⟩ := biS h
    refine ux_calli (va_runV (As := [.int x1]) (rest := []) ⟨hx, hb, hml, hown, hts⟩ (tX2_has l dC dI cy ad τ nb hτ σ x1 H.size r1 hf2) (cwV 1 hts gX11_lies_X2_has rfl rfl rfl (by decide +kernel) ⟨Nat.le_of_ble_eq_true rfl, Nat.le_of_ble_eq_true rfl⟩) (wp_V hK hN hP hD (va_recv hK hP (ci := 2) (q0 := 7) rfl (wG_of (Nat.lt_of_lt_of_le (Nat.le_of_ble_eq_true rfl : 7 < 182) (Nat.le_add_right _ _)) (cC_7 _ _ _ _ _)))) rfl rfl hl.1 rfl (lv_room (Nat.le_of_ble_eq_true rfl)) dX11_lies_5 ⟨Nat.le_of_ble_eq_true rfl, Nat.le_of_ble_eq_true rfl⟩) hD hS hA (fun H locs hP hD hS => ?_)
    refine lv_if_eq (tgt := 26) hx hb dX11_lies_8 (by decide) (fun hcd => ?_) (fun hcd => ?_)
    · have h := cdP hcd h
      refine lv_iconst (v := (-1)) hx hb dX11_lies_26 (by decide) ?_
      exact ux_iretP hx hb hr h hP hD hS hlocks dX11_lies_27
    · have h := cdN hcd h
      refine lv_iload_n hx hb dX11_lies_11 rfl (lv_at hl 2 rfl) ?_
      refine lv_if_lt (tgt := 26) hx hb dX11_lies_12 (by decide) (fun hcd => ?_) (fun hcd => ?_)
      · have h := cdP hcd h
        refine lv_iconst (v := (-1)) hx hb dX11_lies_26 (by decide) ?_
        exact ux_iretP hx hb hr h hP hD hS hlocks dX11_lies_27
      · have h := cdN hcd h
        refine lv_iload_n hx hb dX11_lies_15 rfl (lv_at hl 3 rfl) ?_
        refine lv_iconst (v := 1) hx hb dX11_lies_16 (by decide) ?_
        refine lv_icmp_lt (tgt := 26) hx hb dX11_lies_17 (by decide) (fun hcd => ?_) (fun hcd => ?_)
        · have h := cdP hcd h
          refine lv_iconst (v := (-1)) hx hb dX11_lies_26 (by decide) ?_
          exact ux_iretP hx hb hr h hP hD hS hlocks dX11_lies_27
        · have h := cdN hcd h
          refine lv_iload_n hx hb dX11_lies_20 rfl (lv_at hl 3 rfl) ?_
          refine lv_bipush (v := 99) hx hb dX11_lies_21 (by decide) ?_
          refine lv_icmp_le (tgt := 28) hx hb dX11_lies_23 (by decide) (fun hcd => ?_) (fun hcd => ?_)
          · have h := cdP hcd h
            refine lv_iload_n hx hb dX11_lies_28 rfl (lv_at hl 2 rfl) ?_
            refine lv_iload_n hx hb dX11_lies_29 rfl (lv_at hl 3 rfl) ?_
            refine lv_icmp_gt (tgt := 44) hx hb dX11_lies_30 (by decide) (fun hcd => ?_) (fun hcd => ?_)
            · have h := cdP hcd h
              refine lv_iconst (v := (-1)) hx hb dX11_lies_44 (by decide) ?_
              exact ux_iretP hx hb hr h hP hD hS hlocks dX11_lies_45
            · have h := cdN hcd h
              refine lv_iload hx hb dX11_lies_33 (lv_at hl 4 rfl) ?_
              refine lv_if_lt (tgt := 44) hx hb dX11_lies_35 (by decide) (fun hcd => ?_) (fun hcd => ?_)
              · have h := cdP hcd h
                refine lv_iconst (v := (-1)) hx hb dX11_lies_44 (by decide) ?_
                exact ux_iretP hx hb hr h hP hD hS hlocks dX11_lies_45
              · have h := cdN hcd h
                refine lv_iload hx hb dX11_lies_38 (lv_at hl 4 rfl) ?_
                refine lv_iconst (v := 1) hx hb dX11_lies_40 (by decide) ?_
                refine lv_icmp_le (tgt := 46) hx hb dX11_lies_41 (by decide) (fun hcd => ?_) (fun hcd => ?_)
                · have h := cdP hcd h
                  refine lv_aload_n hx hb dX11_lies_46 rfl (lv_at hl 0 rfl) ?_
                  refine ux_get (D := (dC, dI)) (ci := 11) (v := .ref (ad 7)) (C := RX11) (T := TX11) (M := 13) (fs := (oSR ad (σ.1 0))) hx hb hts (fun _ h9 => List.mem_cons_of_mem _ (List.mem_append_left _ (List.mem_append_right _ h9))) hown hK hP 0 (Nat.lt_of_lt_of_le (Nat.le_of_ble_eq_true rfl : 0 < 182) (Nat.le_add_right _ _)) (cC_0 _ _ _ _ _) rfl 2 (by decide) (hts (.fieldLink RX11 26 "SeatsRound" "keepers" "LSeatsRound$Keepers;") (List.mem_of_getElem? (i := 1) rfl)) (fun _ h9 => h9) rfl dX11_lies_47 ?_
                  refine ux_get (D := (dC, dI)) (ci := 2) (v := .ref (ad 10)) (C := RX2) (T := TX2) (M := 6) (fs := (oKP ad (σ.1 7))) hx hb hts (fun _ h9 => List.mem_cons_of_mem _ (List.mem_append_right _ h9)) hown hK hP 7 (Nat.lt_of_lt_of_le (Nat.le_of_ble_eq_true rfl : 7 < 182) (Nat.le_add_right _ _)) (cC_7 _ _ _ _ _) rfl 2 (by decide) (hts (.fieldLink RX11 149 "SeatsRound$Keepers" "strength" "[I") (List.mem_of_getElem? (i := 2) rfl)) (fun _ h9 => h9) rfl dX11_lies_50 ?_
                  refine lv_iload_n hx hb dX11_lies_53 rfl (lv_at hl 1 rfl) ?_
                  refine ux_iald hx hb hK hP 10 0 (Nat.lt_of_lt_of_le (Nat.le_of_ble_eq_true rfl : 10 < 182) (Nat.le_add_right _ _)) (cC_10 _ _ _ _ _) rfl h dX11_lies_54 (fun v3 h => ?_)
                  refine lv_istore (lv' := [(5, .int v3), (0, .ref (ad 0)), (1, .int x1), (2, .int x2), (3, .int x3), (4, .int x4)]) hx hb dX11_lies_55 hl (by decide) rfl (fun ls hl => ?_)
                  have hl := lv_sub hl [1, 2, 3, 4, 5, 0] (l' := [(0, .ref (ad 0)), (1, .int x1), (2, .int x2), (3, .int x3), (4, .int x4), (5, .int v3)]) rfl
                  refine lv_iconst (v := 1) hx hb dX11_lies_57 (by decide) ?_
                  refine lv_iload hx hb dX11_lies_58 (lv_at hl 5 rfl) ?_
                  refine lv_iload_n hx hb dX11_lies_60 rfl (lv_at hl 3 rfl) ?_
                  refine lv_iload_n hx hb dX11_lies_61 rfl (lv_at hl 2 rfl) ?_
                  refine lv_isub hx hb dX11_lies_62 ?_
                  refine lv_imul hx hb dX11_lies_63 ?_
                  refine lv_iload_n hx hb dX11_lies_64 rfl (lv_at hl 3 rfl) ?_
                  change W _ _ _ _ _ _ _ _ _ _ _ _ _ _ _ (F0 m 65 ls [.int x3, .int (v3 * (x3 - x2)), .int 1])
                  obtain ⟨r4, hf5, h⟩ := biS h
                  refine ux_calli (va_runS (As := [.int (v3 * (x3 - x2)), .int x3]) (rest := [.int 1]) ⟨hx, hb, hml, hown, hts⟩ (tX11_upward l dC dI cy ad τ nb hτ σ (v3 * (x3 - x2)) x3 H.size r4 hf5) (va_cwS 2 hts gX11_lies_X11_upward rfl rfl rfl (by decide +kernel) ⟨Nat.le_of_ble_eq_true rfl, Nat.le_of_ble_eq_true rfl⟩) (wp_S hK hN hP hD) rfl rfl hl.1 rfl (lv_room (Nat.le_of_ble_eq_true rfl)) dX11_lies_65 ⟨Nat.le_of_ble_eq_true rfl, Nat.le_of_ble_eq_true rfl⟩) hD hS hA (fun H locs hP hD hS => ?_)
                  refine va_mmax hx hb (hml.trans hl.1.symm) hown (hts (.methodLink RX11 312 Lib.Math.max.name) (List.mem_of_getElem? (i := 3) rfl)) (hts (.static Lib.Math.max.name) (List.mem_of_getElem? (i := 4) rfl)) (hts (.initialized "java/lang/Math") (List.mem_of_getElem? (i := 5) rfl)) (hts (.code Lib.Math.max.name Lib.Math.max.code 2 (some .int)) (List.mem_of_getElem? (i := 6) rfl)) (Nat.le_of_ble_eq_true rfl) (Nat.le_of_ble_eq_true rfl) (Nat.le_of_ble_eq_true rfl) (Nat.le_of_ble_eq_true rfl) dX11_lies_68 ?_
                  refine lv_topi (fun v6 ev6 => ?_)
                  have h := nmS h ev6
                  refine lv_istore (lv' := [(6, .int v6), (0, .ref (ad 0)), (1, .int x1), (2, .int x2), (3, .int x3), (4, .int x4), (5, .int v3)]) hx hb dX11_lies_71 hl (by decide) rfl (fun ls hl => ?_)
                  have hl := lv_sub hl [1, 2, 3, 4, 5, 6, 0] (l' := [(0, .ref (ad 0)), (1, .int x1), (2, .int x2), (3, .int x3), (4, .int x4), (5, .int v3), (6, .int v6)]) rfl
                  refine lv_iload hx hb dX11_lies_73 (lv_at hl 4 rfl) ?_
                  refine lv_if_ne (tgt := 83) hx hb dX11_lies_75 (by decide) (fun hcd => ?_) (fun hcd => ?_)
                  · have h := cdN hcd h
                    refine lv_iconst (v := 4) hx hb dX11_lies_83 (by decide) ?_
                    refine lv_iload hx hb dX11_lies_84 (lv_at hl 5 rfl) ?_
                    refine lv_iload hx hb dX11_lies_86 (lv_at hl 6 rfl) ?_
                    refine lv_isub hx hb dX11_lies_88 ?_
                    refine lv_imul hx hb dX11_lies_89 ?_
                    exact ux_iretP hx hb hr h hP hD hS hlocks dX11_lies_90
                  · have h := cdP hcd h
                    refine lv_iload hx hb dX11_lies_78 (lv_at hl 6 rfl) ?_
                    refine lv_goto (tgt := 90) hx hb dX11_lies_80 (by decide) ?_
                    exact ux_iretP hx hb hr h hP hD hS hlocks dX11_lies_90
                · have h := cdN hcd h
                  refine lv_iconst (v := (-1)) hx hb dX11_lies_44 (by decide) ?_
                  exact ux_iretP hx hb hr h hP hD hS hlocks dX11_lies_45
          · have h := cdN hcd h
            refine lv_iconst (v := (-1)) hx hb dX11_lies_26 (by decide) ?_
            exact ux_iretP hx hb hr h hP hD hS hlocks dX11_lies_27
  intro H locs ls h hP hD hS hl
  exact w0 σ a1 a2 a3 a4 H locs ls h hP hD hS (lv_sub hl [0, 1, 2, 3, 4] rfl)

set_option maxHeartbeats 4000000 in
set_option maxRecDepth 100000 in
theorem tX11_comes (l : Launch) (dC : Nat → ClassId) (dI : Nat → Nat → Nat) (cy : Nat → ClassId) (ad : Nat → Nat) (τ nb : Nat) (hτ : τ < nb) (σ : S2) (a1 : Int32) (sz : Nat) (r0 : Int32) (σ9 : S2) (h : fX11_comes τ σ a1 = some (r0, σ9)) : Met l yX11_comes wsX11_comes ({ frames := 2, cells := 0, slots := 0, locals := 45 }) (va_Pc [.ref (ad 0), .int a1] (wPre (dC, dI) cy (wG (cC cy ad τ) ad (182 + 6 * nb) σ) sz)) (va_Qi (fun (r : Int32) (_ : Unit) => r = r0) (fun (_ : Unit) t => wAt (dC, dI) (va_A (wG (cC cy ad τ) ad (182 + 6 * nb) σ) sz) (wG (cC cy ad τ) ad (182 + 6 * nb) σ9) t) (va_A (wG (cC cy ad τ) ad (182 + 6 * nb) σ) sz)) 0 0 (va_A (wG (cC cy ad τ) ad (182 + 6 * nb) σ) sz) := by
  refine Met.ofW (cc := cX11_comes) (maxL := 2) (ret := (some .int)) (by decide) rfl ?_
  intro p e s m args below meth c s₁ B hml hv
  obtain ⟨rfl, hsz, hP, hK, hD0, hN⟩ := hv
  have hx := B.exec
  have hb := B.bytes
  have hr := B.returns
  have hts := atoms_spec (ws := wsX11_comes) B.pre
  have hown : s.vm.findClass RX11 = some m.cls := findClass_of_methodNamed B.named
  have hlocks := B.notSynchronized
  subst hsz
  have hD := hD0.self (sz := s.heap.size)
  generalize hAe : va_A (wG (cC cy ad τ) ad (182 + 6 * nb) σ) s.heap.size = A at hD ⊢
  have hA : ∀ q : Nat, s.heap.size ≤ q → A q := fun q h => by rw [← hAe]; exact Or.inr h
  have hS : va_S A s.heap s.heap [] := va_S.rf
  have hl := lv_entry ([.ref (ad 0), .int a1]) (n := 2) (Nat.le_of_ble_eq_true rfl)
  rw [lg_entry_eq]
  generalize (lg_sl ([.ref (ad 0), .int a1]) ++ List.replicate (2 - (lg_sl ([.ref (ad 0), .int a1])).length) Slot.unset).toArray = ls at hl ⊢
  have hl : lv_has ls 2 [(0, .ref (ad 0)), (1, .int a1)] := hl
  unfold fX11_comes at h
  clear hAe hD0
  suffices HH : ∀ (H : Heap) (locs : List Loc) (ls : Array Slot), fX11_comes_0 τ σ a1 = some (r0, σ9) → va_P (dC, dI) vwCl (wG (cC cy ad τ) ad (182 + 6 * nb) σ) H → va_D A (wG (cC cy ad τ) ad (182 + 6 * nb) σ) → va_S A s.heap H locs → lv_has ls 2 [(0, .ref (ad 0)), (1, .int a1)] → W p l e (headSpec wsX11_comes ({ frames := 2, cells := 0, slots := 0, locals := 45 })).room s m (#[.ref (ad 0), .int a1]) below meth c H locs 0 0 (MQ below (va_Qi (fun (r : Int32) (_ : Unit) => r = r0) (fun (_ : Unit) t => wAt (dC, dI) A (wG (cC cy ad τ) ad (182 + 6 * nb) σ9) t) A) (#[.ref (ad 0), .int a1]) s 0 0 A) (F0 m 0 ls []) from HH s.heap [] ls h hP hD hS hl
  have w0 : ∀ (σ : S2) (x1 : Int32) (H : Heap) (locs : List Loc) (ls : Array Slot), fX11_comes_0 τ σ x1 = some (r0, σ9) → va_P (dC, dI) vwCl (wG (cC cy ad τ) ad (182 + 6 * nb) σ) H → va_D A (wG (cC cy ad τ) ad (182 + 6 * nb) σ) → va_S A s.heap H locs → lv_has ls 2 [(0, .ref (ad 0)), (1, .int x1)] → W p l e (headSpec wsX11_comes ({ frames := 2, cells := 0, slots := 0, locals := 45 })).room s m (#[.ref (ad 0), .int a1]) below meth c H locs 0 0 (MQ below (va_Qi (fun (r : Int32) (_ : Unit) => r = r0) (fun (_ : Unit) t => wAt (dC, dI) A (wG (cC cy ad τ) ad (182 + 6 * nb) σ9) t) A) (#[.ref (ad 0), .int a1]) s 0 0 A) (F0 m 0 ls []) := by
    intro σ x1 H locs ls h hP hD hS hl
    unfold fX11_comes_0 at h
    refine lv_aload_n hx hb dX11_comes_0 rfl (lv_at hl 0 rfl) ?_
    refine ux_get (D := (dC, dI)) (ci := 11) (v := .ref (ad 7)) (C := RX11) (T := TX11) (M := 13) (fs := (oSR ad (σ.1 0))) hx hb hts (fun _ h9 => List.mem_cons_of_mem _ (List.mem_append_left _ (List.mem_append_left _ (List.mem_append_right _ h9)))) hown hK hP 0 (Nat.lt_of_lt_of_le (Nat.le_of_ble_eq_true rfl : 0 < 182) (Nat.le_add_right _ _)) (cC_0 _ _ _ _ _) rfl 2 (by decide) (hts (.fieldLink RX11 26 "SeatsRound" "keepers" "LSeatsRound$Keepers;") (List.mem_of_getElem? (i := 1) rfl)) (fun _ h9 => h9) rfl dX11_comes_1 ?_
    refine lv_iload_n hx hb dX11_comes_4 rfl (lv_at hl 1 rfl) ?_
    obtain ⟨r1, hf2, h⟩ := biS h
    refine ux_calli (va_runV (As := [.int x1]) (rest := []) ⟨hx, hb, hml, hown, hts⟩ (tX2_has l dC dI cy ad τ nb hτ σ x1 H.size r1 hf2) (cwV 1 hts gX11_comes_X2_has rfl rfl rfl (by decide +kernel) ⟨Nat.le_of_ble_eq_true rfl, Nat.le_of_ble_eq_true rfl⟩) (wp_V hK hN hP hD (va_recv hK hP (ci := 2) (q0 := 7) rfl (wG_of (Nat.lt_of_lt_of_le (Nat.le_of_ble_eq_true rfl : 7 < 182) (Nat.le_add_right _ _)) (cC_7 _ _ _ _ _)))) rfl rfl hl.1 rfl (lv_room (Nat.le_of_ble_eq_true rfl)) dX11_comes_5 ⟨Nat.le_of_ble_eq_true rfl, Nat.le_of_ble_eq_true rfl⟩) hD hS hA (fun H locs hP hD hS => ?_)
    refine lv_if_eq (tgt := 22) hx hb dX11_comes_8 (by decide) (fun hcd => ?_) (fun hcd => ?_)
    · have h := cdP hcd h
      refine lv_iconst (v := (-1)) hx hb dX11_comes_22 (by decide) ?_
      exact ux_iret hx hb hr h hP hD hS hlocks dX11_comes_23
    · have h := cdN hcd h
      refine lv_aload_n hx hb dX11_comes_11 rfl (lv_at hl 0 rfl) ?_
      refine ux_get (D := (dC, dI)) (ci := 11) (v := .ref (ad 27)) (C := RX11) (T := TX11) (M := 13) (fs := (oSR ad (σ.1 0))) hx hb hts (fun _ h9 => List.mem_cons_of_mem _ (List.mem_append_left _ (List.mem_append_left _ (List.mem_append_right _ h9)))) hown hK hP 0 (Nat.lt_of_lt_of_le (Nat.le_of_ble_eq_true rfl : 0 < 182) (Nat.le_add_right _ _)) (cC_0 _ _ _ _ _) rfl 9 (by decide) (hts (.fieldLink RX11 75 "SeatsRound" "orders" "LSeatsRound$Orders;") (List.mem_of_getElem? (i := 2) rfl)) (fun _ h9 => h9) rfl dX11_comes_12 ?_
      refine lv_iload_n hx hb dX11_comes_15 rfl (lv_at hl 1 rfl) ?_
      obtain ⟨r3, hf4, h⟩ := biS h
      refine ux_calli (va_runV (As := [.int x1]) (rest := []) ⟨hx, hb, hml, hown, hts⟩ (tX5_isTold l dC dI cy ad τ nb hτ σ x1 H.size r3 hf4) (cwV 1 hts gX11_comes_X5_isTold rfl rfl rfl (by decide +kernel) ⟨Nat.le_of_ble_eq_true rfl, Nat.le_of_ble_eq_true rfl⟩) (wp_V hK hN hP hD (va_recv hK hP (ci := 5) (q0 := 27) rfl (wG_of (Nat.lt_of_lt_of_le (Nat.le_of_ble_eq_true rfl : 27 < 182) (Nat.le_add_right _ _)) (cC_27 _ _ _ _ _)))) rfl rfl hl.1 rfl (lv_room (Nat.le_of_ble_eq_true rfl)) dX11_comes_16 ⟨Nat.le_of_ble_eq_true rfl, Nat.le_of_ble_eq_true rfl⟩) hD hS hA (fun H locs hP hD hS => ?_)
      refine lv_if_eq (tgt := 24) hx hb dX11_comes_19 (by decide) (fun hcd => ?_) (fun hcd => ?_)
      · have h := cdP hcd h
        refine lv_aload_n hx hb dX11_comes_24 rfl (lv_at hl 0 rfl) ?_
        refine ux_get (D := (dC, dI)) (ci := 11) (v := .ref (ad 27)) (C := RX11) (T := TX11) (M := 13) (fs := (oSR ad (σ.1 0))) hx hb hts (fun _ h9 => List.mem_cons_of_mem _ (List.mem_append_left _ (List.mem_append_left _ (List.mem_append_right _ h9)))) hown hK hP 0 (Nat.lt_of_lt_of_le (Nat.le_of_ble_eq_true rfl : 0 < 182) (Nat.le_add_right _ _)) (cC_0 _ _ _ _ _) rfl 9 (by decide) (hts (.fieldLink RX11 75 "SeatsRound" "orders" "LSeatsRound$Orders;") (List.mem_of_getElem? (i := 2) rfl)) (fun _ h9 => h9) rfl dX11_comes_25 ?_
        refine ux_get (D := (dC, dI)) (ci := 5) (v := .int (σ.1 27 1)) (C := RX5) (T := TX5) (M := 10) (fs := (oOR ad (σ.1 27))) hx hb hts (fun _ h9 => List.mem_cons_of_mem _ (List.mem_append_left _ (List.mem_append_right _ h9))) hown hK hP 27 (Nat.lt_of_lt_of_le (Nat.le_of_ble_eq_true rfl : 27 < 182) (Nat.le_add_right _ _)) (cC_27 _ _ _ _ _) rfl 1 (by decide) (hts (.fieldLink RX11 320 "SeatsRound$Orders" "toldCount" "I") (List.mem_of_getElem? (i := 3) rfl)) (fun _ h9 => h9) rfl dX11_comes_28 ?_
        refine lv_iconst (v := 5) hx hb dX11_comes_31 (by decide) ?_
        refine lv_icmp_lt (tgt := 38) hx hb dX11_comes_32 (by decide) (fun hcd => ?_) (fun hcd => ?_)
        · have h := cdP hcd h
          refine lv_aload_n hx hb dX11_comes_38 rfl (lv_at hl 0 rfl) ?_
          refine ux_get (D := (dC, dI)) (ci := 11) (v := .ref (ad 27)) (C := RX11) (T := TX11) (M := 13) (fs := (oSR ad (σ.1 0))) hx hb hts (fun _ h9 => List.mem_cons_of_mem _ (List.mem_append_left _ (List.mem_append_left _ (List.mem_append_right _ h9)))) hown hK hP 0 (Nat.lt_of_lt_of_le (Nat.le_of_ble_eq_true rfl : 0 < 182) (Nat.le_add_right _ _)) (cC_0 _ _ _ _ _) rfl 9 (by decide) (hts (.fieldLink RX11 75 "SeatsRound" "orders" "LSeatsRound$Orders;") (List.mem_of_getElem? (i := 2) rfl)) (fun _ h9 => h9) rfl dX11_comes_39 ?_
          refine ux_get (D := (dC, dI)) (ci := 5) (v := .ref (ad 28)) (C := RX5) (T := TX5) (M := 10) (fs := (oOR ad (σ.1 27))) hx hb hts (fun _ h9 => List.mem_cons_of_mem _ (List.mem_append_left _ (List.mem_append_right _ h9))) hown hK hP 27 (Nat.lt_of_lt_of_le (Nat.le_of_ble_eq_true rfl : 27 < 182) (Nat.le_add_right _ _)) (cC_27 _ _ _ _ _) rfl 0 (by decide) (hts (.fieldLink RX11 323 "SeatsRound$Orders" "told" "[I") (List.mem_of_getElem? (i := 4) rfl)) (fun _ h9 => h9) rfl dX11_comes_42 ?_
          refine lv_aload_n hx hb dX11_comes_45 rfl (lv_at hl 0 rfl) ?_
          refine ux_get (D := (dC, dI)) (ci := 11) (v := .ref (ad 27)) (C := RX11) (T := TX11) (M := 13) (fs := (oSR ad (σ.1 0))) hx hb hts (fun _ h9 => List.mem_cons_of_mem _ (List.mem_append_left _ (List.mem_append_left _ (List.mem_append_right _ h9)))) hown hK hP 0 (Nat.lt_of_lt_of_le (Nat.le_of_ble_eq_true rfl : 0 < 182) (Nat.le_add_right _ _)) (cC_0 _ _ _ _ _) rfl 9 (by decide) (hts (.fieldLink RX11 75 "SeatsRound" "orders" "LSeatsRound$Orders;") (List.mem_of_getElem? (i := 2) rfl)) (fun _ h9 => h9) rfl dX11_comes_46 ?_
          refine ux_get (D := (dC, dI)) (ci := 5) (v := .int (σ.1 27 1)) (C := RX5) (T := TX5) (M := 10) (fs := (oOR ad (σ.1 27))) hx hb hts (fun _ h9 => List.mem_cons_of_mem _ (List.mem_append_left _ (List.mem_append_right _ h9))) hown hK hP 27 (Nat.lt_of_lt_of_le (Nat.le_of_ble_eq_true rfl : 27 < 182) (Nat.le_add_right _ _)) (cC_27 _ _ _ _ _) rfl 1 (by decide) (hts (.fieldLink RX11 320 "SeatsRound$Orders" "toldCount" "I") (List.mem_of_getElem? (i := 3) rfl)) (fun _ h9 => h9) rfl dX11_comes_49 ?_
          refine lv_iload_n hx hb dX11_comes_52 rfl (lv_at hl 1 rfl) ?_
          refine ux_iast hx hb hK hP hD hS 28 0 (Nat.lt_of_lt_of_le (Nat.le_of_ble_eq_true rfl : 28 < 182) (Nat.le_add_right _ _)) (fun _ => (cC_28 _ _ _ _ _)) rfl h dX11_comes_53 (fun σ5 H locs h hP hD hS => ?_)
          change W _ _ _ _ _ _ _ _ _ _ _ _ _ _ _ (F0 m 54 ls [])
          refine lv_aload_n hx hb dX11_comes_54 rfl (lv_at hl 0 rfl) ?_
          refine ux_get (D := (dC, dI)) (ci := 11) (v := .ref (ad 27)) (C := RX11) (T := TX11) (M := 13) (fs := (oSR ad (σ5.1 0))) hx hb hts (fun _ h9 => List.mem_cons_of_mem _ (List.mem_append_left _ (List.mem_append_left _ (List.mem_append_right _ h9)))) hown hK hP 0 (Nat.lt_of_lt_of_le (Nat.le_of_ble_eq_true rfl : 0 < 182) (Nat.le_add_right _ _)) (cC_0 _ _ _ _ _) rfl 9 (by decide) (hts (.fieldLink RX11 75 "SeatsRound" "orders" "LSeatsRound$Orders;") (List.mem_of_getElem? (i := 2) rfl)) (fun _ h9 => h9) rfl dX11_comes_55 ?_
          refine lv_dup hx hb dX11_comes_58 rfl ?_
          refine ux_get (D := (dC, dI)) (ci := 5) (v := .int (σ5.1 27 1)) (C := RX5) (T := TX5) (M := 10) (fs := (oOR ad (σ5.1 27))) hx hb hts (fun _ h9 => List.mem_cons_of_mem _ (List.mem_append_left _ (List.mem_append_right _ h9))) hown hK hP 27 (Nat.lt_of_lt_of_le (Nat.le_of_ble_eq_true rfl : 27 < 182) (Nat.le_add_right _ _)) (cC_27 _ _ _ _ _) rfl 1 (by decide) (hts (.fieldLink RX11 320 "SeatsRound$Orders" "toldCount" "I") (List.mem_of_getElem? (i := 3) rfl)) (fun _ h9 => h9) rfl dX11_comes_59 ?_
          refine lv_iconst (v := 1) hx hb dX11_comes_62 (by decide) ?_
          refine lv_iadd hx hb dX11_comes_63 ?_
          refine ux_put (D := (dC, dI)) (ci := 5) (C := RX5) (T := TX5) (M := 10) (fs := (oOR ad (σ5.1 27))) hx hb hts (fun _ h9 => List.mem_cons_of_mem _ (List.mem_append_left _ (List.mem_append_right _ h9))) tyX5 tyX5_ok nmX5 hown hK hP hD hS 27 (Nat.lt_of_lt_of_le (Nat.le_of_ble_eq_true rfl : 27 < 182) (Nat.le_add_right _ _)) (cC_27 _ _ _ _ _) rfl 1 (by decide) (hts (.fieldLink RX11 320 "SeatsRound$Orders" "toldCount" "I") (List.mem_of_getElem? (i := 3) rfl)) (fun _ h9 => h9) rfl (tyX5_ok 1 (by decide)) rfl rfl (Nat.le_of_ble_eq_true rfl) (oC_27_1 _ _ _ _ _ _) h dX11_comes_64 (fun σ6 H locs h hP hD hS => ?_)
          refine lv_aload_n hx hb dX11_comes_67 rfl (lv_at hl 0 rfl) ?_
          refine ux_get (D := (dC, dI)) (ci := 11) (v := .ref (ad 27)) (C := RX11) (T := TX11) (M := 13) (fs := (oSR ad (σ6.1 0))) hx hb hts (fun _ h9 => List.mem_cons_of_mem _ (List.mem_append_left _ (List.mem_append_left _ (List.mem_append_right _ h9)))) hown hK hP 0 (Nat.lt_of_lt_of_le (Nat.le_of_ble_eq_true rfl : 0 < 182) (Nat.le_add_right _ _)) (cC_0 _ _ _ _ _) rfl 9 (by decide) (hts (.fieldLink RX11 75 "SeatsRound" "orders" "LSeatsRound$Orders;") (List.mem_of_getElem? (i := 2) rfl)) (fun _ h9 => h9) rfl dX11_comes_68 ?_
          refine ux_get (D := (dC, dI)) (ci := 5) (v := .int (σ6.1 27 1)) (C := RX5) (T := TX5) (M := 10) (fs := (oOR ad (σ6.1 27))) hx hb hts (fun _ h9 => List.mem_cons_of_mem _ (List.mem_append_left _ (List.mem_append_right _ h9))) hown hK hP 27 (Nat.lt_of_lt_of_le (Nat.le_of_ble_eq_true rfl : 27 < 182) (Nat.le_add_right _ _)) (cC_27 _ _ _ _ _) rfl 1 (by decide) (hts (.fieldLink RX11 320 "SeatsRound$Orders" "toldCount" "I") (List.mem_of_getElem? (i := 3) rfl)) (fun _ h9 => h9) rfl dX11_comes_71 ?_
          exact ux_iret hx hb hr h hP hD hS hlocks dX11_comes_74
        · have h := cdN hcd h
          refine lv_bipush (v := (-3)) hx hb dX11_comes_35 (by decide) ?_
          exact ux_iret hx hb hr h hP hD hS hlocks dX11_comes_37
      · have h := cdN hcd h
        refine lv_iconst (v := (-1)) hx hb dX11_comes_22 (by decide) ?_
        exact ux_iret hx hb hr h hP hD hS hlocks dX11_comes_23
  intro H locs ls h hP hD hS hl
  exact w0 σ a1 H locs ls h hP hD hS (lv_sub hl [0, 1] rfl)

set_option maxHeartbeats 4000000 in
set_option maxRecDepth 100000 in
theorem tX11_order (l : Launch) (dC : Nat → ClassId) (dI : Nat → Nat → Nat) (cy : Nat → ClassId) (ad : Nat → Nat) (τ nb : Nat) (hτ : τ < nb) (σ : S2) (a1 : Int32) (sz : Nat) (r0 : Int32) (σ9 : S2) (h : fX11_order τ σ a1 = some (r0, σ9)) : Met l yX11_order wsX11_order ({ frames := 32, cells := 0, slots := 0, locals := 787 }) (va_Pc [.ref (ad 0), .int a1] (wPre (dC, dI) cy (wG (cC cy ad τ) ad (182 + 6 * nb) σ) sz)) (va_Qi (fun (r : Int32) (_ : Unit) => r = r0) (fun (_ : Unit) t => wAt (dC, dI) (va_A (wG (cC cy ad τ) ad (182 + 6 * nb) σ) sz) (wG (cC cy ad τ) ad (182 + 6 * nb) σ9) t) (va_A (wG (cC cy ad τ) ad (182 + 6 * nb) σ) sz)) 0 0 (va_A (wG (cC cy ad τ) ad (182 + 6 * nb) σ) sz) := by
  refine Met.ofW (cc := cX11_order) (maxL := 4) (ret := (some .int)) (by decide) rfl ?_
  intro p e s m args below meth c s₁ B hml hv
  obtain ⟨rfl, hsz, hP, hK, hD0, hN⟩ := hv
  have hx := B.exec
  have hb := B.bytes
  have hr := B.returns
  have hts := atoms_spec (ws := wsX11_order) B.pre
  have hown : s.vm.findClass RX11 = some m.cls := findClass_of_methodNamed B.named
  have hlocks := B.notSynchronized
  subst hsz
  have hD := hD0.self (sz := s.heap.size)
  generalize hAe : va_A (wG (cC cy ad τ) ad (182 + 6 * nb) σ) s.heap.size = A at hD ⊢
  have hA : ∀ q : Nat, s.heap.size ≤ q → A q := fun q h => by rw [← hAe]; exact Or.inr h
  have hS : va_S A s.heap s.heap [] := va_S.rf
  have hl := lv_entry ([.ref (ad 0), .int a1]) (n := 4) (Nat.le_of_ble_eq_true rfl)
  rw [lg_entry_eq]
  generalize (lg_sl ([.ref (ad 0), .int a1]) ++ List.replicate (4 - (lg_sl ([.ref (ad 0), .int a1])).length) Slot.unset).toArray = ls at hl ⊢
  have hl : lv_has ls 4 [(0, .ref (ad 0)), (1, .int a1)] := hl
  unfold fX11_order at h
  clear hAe hD0
  suffices HH : ∀ (H : Heap) (locs : List Loc) (ls : Array Slot), fX11_order_0 τ σ a1 = some (r0, σ9) → va_P (dC, dI) vwCl (wG (cC cy ad τ) ad (182 + 6 * nb) σ) H → va_D A (wG (cC cy ad τ) ad (182 + 6 * nb) σ) → va_S A s.heap H locs → lv_has ls 4 [(0, .ref (ad 0)), (1, .int a1)] → W p l e (headSpec wsX11_order ({ frames := 32, cells := 0, slots := 0, locals := 787 })).room s m (#[.ref (ad 0), .int a1]) below meth c H locs 0 0 (MQ below (va_Qi (fun (r : Int32) (_ : Unit) => r = r0) (fun (_ : Unit) t => wAt (dC, dI) A (wG (cC cy ad τ) ad (182 + 6 * nb) σ9) t) A) (#[.ref (ad 0), .int a1]) s 0 0 A) (F0 m 0 ls []) from HH s.heap [] ls h hP hD hS hl
  have w0 : ∀ (σ : S2) (x1 : Int32) (H : Heap) (locs : List Loc) (ls : Array Slot), fX11_order_0 τ σ x1 = some (r0, σ9) → va_P (dC, dI) vwCl (wG (cC cy ad τ) ad (182 + 6 * nb) σ) H → va_D A (wG (cC cy ad τ) ad (182 + 6 * nb) σ) → va_S A s.heap H locs → lv_has ls 4 [(0, .ref (ad 0)), (1, .int x1)] → W p l e (headSpec wsX11_order ({ frames := 32, cells := 0, slots := 0, locals := 787 })).room s m (#[.ref (ad 0), .int a1]) below meth c H locs 0 0 (MQ below (va_Qi (fun (r : Int32) (_ : Unit) => r = r0) (fun (_ : Unit) t => wAt (dC, dI) A (wG (cC cy ad τ) ad (182 + 6 * nb) σ9) t) A) (#[.ref (ad 0), .int a1]) s 0 0 A) (F0 m 0 ls []) := by
    intro σ x1 H locs ls h hP hD hS hl
    unfold fX11_order_0 at h
    refine lv_aload_n hx hb dX11_order_0 rfl (lv_at hl 0 rfl) ?_
    refine lv_iload_n hx hb dX11_order_1 rfl (lv_at hl 1 rfl) ?_
    rcases btS h with ⟨hf1, h⟩ | ⟨b2, hf1, h⟩
    · have _ := hτ
      refine ux_callqN (va_runV (As := [.int x1]) (rest := []) ⟨hx, hb, hml, hown, hts⟩ (tX11_tableAt l dC dI cy ad τ nb hτ σ x1 H.size none hf1) (cwV 1 hts gX11_order_X11_tableAt rfl rfl rfl (by decide +kernel) ⟨Nat.le_of_ble_eq_true rfl, Nat.le_of_ble_eq_true rfl⟩) (wp_V hK hN hP hD (va_recv hK hP (ci := 11) (q0 := 0) rfl (wG_of (Nat.lt_of_lt_of_le (Nat.le_of_ble_eq_true rfl : 0 < 182) (Nat.le_add_right _ _)) (cC_0 _ _ _ _ _)))) rfl rfl hl.1 rfl (lv_room (Nat.le_of_ble_eq_true rfl)) dX11_order_2 ⟨Nat.le_of_ble_eq_true rfl, Nat.le_of_ble_eq_true rfl⟩) ?_
      refine lv_astore_nN (lv' := [(2, .null), (0, .ref (ad 0)), (1, .int x1)]) hx hb dX11_order_5 rfl hl (by decide) rfl (fun ls hl => ?_)
      have hl := lv_sub hl [1, 2, 0] (l' := [(0, .ref (ad 0)), (1, .int x1), (2, .null)]) rfl
      refine lv_aload_nN hx hb dX11_order_6 rfl (lv_at hl 2 rfl) ?_
      refine lv_ifnullN (tgt := 20) hx hb dX11_order_7 (by decide) ?_
      refine lv_iconst (v := (-1)) hx hb dX11_order_20 (by decide) ?_
      exact ux_iret hx hb hr h hP hD hS hlocks dX11_order_21
    · have hb2 : b2 < nb := ux_tabB hτ hf1
      refine ux_callqS (va_runV (As := [.int x1]) (rest := []) ⟨hx, hb, hml, hown, hts⟩ (tX11_tableAt l dC dI cy ad τ nb hτ σ x1 H.size (some b2) hf1) (cwV 1 hts gX11_order_X11_tableAt rfl rfl rfl (by decide +kernel) ⟨Nat.le_of_ble_eq_true rfl, Nat.le_of_ble_eq_true rfl⟩) (wp_V hK hN hP hD (va_recv hK hP (ci := 11) (q0 := 0) rfl (wG_of (Nat.lt_of_lt_of_le (Nat.le_of_ble_eq_true rfl : 0 < 182) (Nat.le_add_right _ _)) (cC_0 _ _ _ _ _)))) rfl rfl hl.1 rfl (lv_room (Nat.le_of_ble_eq_true rfl)) dX11_order_2 ⟨Nat.le_of_ble_eq_true rfl, Nat.le_of_ble_eq_true rfl⟩) ?_
      refine lv_astore_n (lv' := [(2, .ref (ad (182 + 6 * b2))), (0, .ref (ad 0)), (1, .int x1)]) hx hb dX11_order_5 rfl hl (by decide) rfl (fun ls hl => ?_)
      have hl := lv_sub hl [1, 2, 0] (l' := [(0, .ref (ad 0)), (1, .int x1), (2, .ref (ad (182 + 6 * b2)))]) rfl
      refine lv_aload_n hx hb dX11_order_6 rfl (lv_at hl 2 rfl) ?_
      refine lv_ifnull hx hb dX11_order_7 ?_
      refine lv_aload_n hx hb dX11_order_10 rfl (lv_at hl 0 rfl) ?_
      refine ux_get (D := (dC, dI)) (ci := 11) (v := .ref (ad 27)) (C := RX11) (T := TX11) (M := 13) (fs := (oSR ad (σ.1 0))) hx hb hts (fun _ h9 => List.mem_cons_of_mem _ (List.mem_append_left _ (List.mem_append_left _ (List.mem_append_left _ (List.mem_append_left _ (List.mem_append_left _ (List.mem_append_left _ (List.mem_append_right _ h9)))))))) hown hK hP 0 (Nat.lt_of_lt_of_le (Nat.le_of_ble_eq_true rfl : 0 < 182) (Nat.le_add_right _ _)) (cC_0 _ _ _ _ _) rfl 9 (by decide) (hts (.fieldLink RX11 75 "SeatsRound" "orders" "LSeatsRound$Orders;") (List.mem_of_getElem? (i := 1) rfl)) (fun _ h9 => h9) rfl dX11_order_11 ?_
      refine ux_get (D := (dC, dI)) (ci := 5) (v := .int (σ.1 27 1)) (C := RX5) (T := TX5) (M := 10) (fs := (oOR ad (σ.1 27))) hx hb hts (fun _ h9 => List.mem_cons_of_mem _ (List.mem_append_left _ (List.mem_append_left _ (List.mem_append_left _ (List.mem_append_left _ (List.mem_append_left _ (List.mem_append_right _ h9))))))) hown hK hP 27 (Nat.lt_of_lt_of_le (Nat.le_of_ble_eq_true rfl : 27 < 182) (Nat.le_add_right _ _)) (cC_27 _ _ _ _ _) rfl 1 (by decide) (hts (.fieldLink RX11 320 "SeatsRound$Orders" "toldCount" "I") (List.mem_of_getElem? (i := 2) rfl)) (fun _ h9 => h9) rfl dX11_order_14 ?_
      refine lv_if_ne (tgt := 22) hx hb dX11_order_17 (by decide) (fun hcd => ?_) (fun hcd => ?_)
      · have h := cdN hcd h
        refine lv_aload_n hx hb dX11_order_22 rfl (lv_at hl 0 rfl) ?_
        refine ux_get (D := (dC, dI)) (ci := 11) (v := .ref (ad 27)) (C := RX11) (T := TX11) (M := 13) (fs := (oSR ad (σ.1 0))) hx hb hts (fun _ h9 => List.mem_cons_of_mem _ (List.mem_append_left _ (List.mem_append_left _ (List.mem_append_left _ (List.mem_append_left _ (List.mem_append_left _ (List.mem_append_left _ (List.mem_append_right _ h9)))))))) hown hK hP 0 (Nat.lt_of_lt_of_le (Nat.le_of_ble_eq_true rfl : 0 < 182) (Nat.le_add_right _ _)) (cC_0 _ _ _ _ _) rfl 9 (by decide) (hts (.fieldLink RX11 75 "SeatsRound" "orders" "LSeatsRound$Orders;") (List.mem_of_getElem? (i := 1) rfl)) (fun _ h9 => h9) rfl dX11_order_23 ?_
        refine lv_aload_n hx hb dX11_order_26 rfl (lv_at hl 2 rfl) ?_
        refine lv_aload_n hx hb dX11_order_27 rfl (lv_at hl 0 rfl) ?_
        refine ux_get (D := (dC, dI)) (ci := 11) (v := .ref (ad 182)) (C := RX11) (T := TX11) (M := 13) (fs := (oSR ad (σ.1 0))) hx hb hts (fun _ h9 => List.mem_cons_of_mem _ (List.mem_append_left _ (List.mem_append_left _ (List.mem_append_left _ (List.mem_append_left _ (List.mem_append_left _ (List.mem_append_left _ (List.mem_append_right _ h9)))))))) hown hK hP 0 (Nat.lt_of_lt_of_le (Nat.le_of_ble_eq_true rfl : 0 < 182) (Nat.le_add_right _ _)) (cC_0 _ _ _ _ _) rfl 7 (by decide) (hts (.fieldLink RX11 57 "SeatsRound" "draft" "LSeatsRound$Table;") (List.mem_of_getElem? (i := 3) rfl)) (fun _ h9 => h9) rfl dX11_order_28 ?_
        obtain ⟨r3, σ4, hf5, h⟩ := bsS h
        refine ux_calli (va_runV (As := [.ref (ad (182 + 6 * b2)), .ref (ad 182)]) (rest := []) ⟨hx, hb, hml, hown, hts⟩ (tX5_leastFrom l dC dI cy ad τ nb hτ b2 (by omega) σ H.size r3 σ4 hf5) (cwV 2 hts gX11_order_X5_leastFrom rfl rfl rfl (by decide +kernel) ⟨Nat.le_of_ble_eq_true rfl, Nat.le_of_ble_eq_true rfl⟩) (wp_V hK hN hP hD (va_recv hK hP (ci := 5) (q0 := 27) rfl (wG_of (Nat.lt_of_lt_of_le (Nat.le_of_ble_eq_true rfl : 27 < 182) (Nat.le_add_right _ _)) (cC_27 _ _ _ _ _)))) rfl rfl hl.1 rfl (lv_room (Nat.le_of_ble_eq_true rfl)) dX11_order_31 ⟨Nat.le_of_ble_eq_true rfl, Nat.le_of_ble_eq_true rfl⟩) hD hS hA (fun H locs hP hD hS => ?_)
        refine lv_istore_n (lv' := [(3, .int r3), (0, .ref (ad 0)), (1, .int x1), (2, .ref (ad (182 + 6 * b2)))]) hx hb dX11_order_34 rfl hl (by decide) rfl (fun ls hl => ?_)
        have hl := lv_sub hl [1, 2, 3, 0] (l' := [(0, .ref (ad 0)), (1, .int x1), (2, .ref (ad (182 + 6 * b2))), (3, .int r3)]) rfl
        refine lv_iload_n hx hb dX11_order_35 rfl (lv_at hl 3 rfl) ?_
        refine lv_iconst (v := (-1)) hx hb dX11_order_36 (by decide) ?_
        refine lv_icmp_ne (tgt := 45) hx hb dX11_order_37 (by decide) (fun hcd => ?_) (fun hcd => ?_)
        · have h := cdN hcd h
          refine lv_iload_n hx hb dX11_order_45 rfl (lv_at hl 3 rfl) ?_
          exact ux_iret hx hb hr h hP hD hS hlocks dX11_order_46
        · have h := cdP hcd h
          refine lv_bipush (v := (-2)) hx hb dX11_order_40 (by decide) ?_
          refine lv_goto (tgt := 46) hx hb dX11_order_42 (by decide) ?_
          exact ux_iret hx hb hr h hP hD hS hlocks dX11_order_46
      · have h := cdP hcd h
        refine lv_iconst (v := (-1)) hx hb dX11_order_20 (by decide) ?_
        exact ux_iret hx hb hr h hP hD hS hlocks dX11_order_21
  intro H locs ls h hP hD hS hl
  exact w0 σ a1 H locs ls h hP hD hS (lv_sub hl [0, 1] rfl)

set_option maxHeartbeats 4000000 in
set_option maxRecDepth 100000 in
theorem tX11_ordered (l : Launch) (dC : Nat → ClassId) (dI : Nat → Nat → Nat) (cy : Nat → ClassId) (ad : Nat → Nat) (τ nb : Nat) (hτ : τ < nb) (σ : S2) (a1 : Int32) (sz : Nat) (r0 : Int32) (h : fX11_ordered τ σ a1 = some r0) : Met l yX11_ordered wsX11_ordered ({ frames := 1, cells := 0, slots := 0, locals := 23 }) (va_Pc [.ref (ad 0), .int a1] (wPre (dC, dI) cy (wG (cC cy ad τ) ad (182 + 6 * nb) σ) sz)) (va_Qi (fun (r : Int32) (_ : Unit) => r = r0) (fun (_ : Unit) t => wAt (dC, dI) (va_A (wG (cC cy ad τ) ad (182 + 6 * nb) σ) sz) (wG (cC cy ad τ) ad (182 + 6 * nb) σ) t) (va_A (wG (cC cy ad τ) ad (182 + 6 * nb) σ) sz)) 0 0 (va_A (wG (cC cy ad τ) ad (182 + 6 * nb) σ) sz) := by
  refine Met.ofW (cc := cX11_ordered) (maxL := 2) (ret := (some .int)) (by decide) rfl ?_
  intro p e s m args below meth c s₁ B hml hv
  obtain ⟨rfl, hsz, hP, hK, hD0, hN⟩ := hv
  have hx := B.exec
  have hb := B.bytes
  have hr := B.returns
  have hts := atoms_spec (ws := wsX11_ordered) B.pre
  have hown : s.vm.findClass RX11 = some m.cls := findClass_of_methodNamed B.named
  have hlocks := B.notSynchronized
  subst hsz
  have hD := hD0.self (sz := s.heap.size)
  generalize hAe : va_A (wG (cC cy ad τ) ad (182 + 6 * nb) σ) s.heap.size = A at hD ⊢
  have hA : ∀ q : Nat, s.heap.size ≤ q → A q := fun q h => by rw [← hAe]; exact Or.inr h
  have hS : va_S A s.heap s.heap [] := va_S.rf
  have hl := lv_entry ([.ref (ad 0), .int a1]) (n := 2) (Nat.le_of_ble_eq_true rfl)
  rw [lg_entry_eq]
  generalize (lg_sl ([.ref (ad 0), .int a1]) ++ List.replicate (2 - (lg_sl ([.ref (ad 0), .int a1])).length) Slot.unset).toArray = ls at hl ⊢
  have hl : lv_has ls 2 [(0, .ref (ad 0)), (1, .int a1)] := hl
  unfold fX11_ordered at h
  clear hAe hD0
  suffices HH : ∀ (H : Heap) (locs : List Loc) (ls : Array Slot), fX11_ordered_0 τ σ a1 = some r0 → va_P (dC, dI) vwCl (wG (cC cy ad τ) ad (182 + 6 * nb) σ) H → va_D A (wG (cC cy ad τ) ad (182 + 6 * nb) σ) → va_S A s.heap H locs → lv_has ls 2 [(0, .ref (ad 0)), (1, .int a1)] → W p l e (headSpec wsX11_ordered ({ frames := 1, cells := 0, slots := 0, locals := 23 })).room s m (#[.ref (ad 0), .int a1]) below meth c H locs 0 0 (MQ below (va_Qi (fun (r : Int32) (_ : Unit) => r = r0) (fun (_ : Unit) t => wAt (dC, dI) A (wG (cC cy ad τ) ad (182 + 6 * nb) σ) t) A) (#[.ref (ad 0), .int a1]) s 0 0 A) (F0 m 0 ls []) from HH s.heap [] ls h hP hD hS hl
  have w0 : ∀ (σ : S2) (x1 : Int32) (H : Heap) (locs : List Loc) (ls : Array Slot), fX11_ordered_0 τ σ x1 = some r0 → va_P (dC, dI) vwCl (wG (cC cy ad τ) ad (182 + 6 * nb) σ) H → va_D A (wG (cC cy ad τ) ad (182 + 6 * nb) σ) → va_S A s.heap H locs → lv_has ls 2 [(0, .ref (ad 0)), (1, .int x1)] → W p l e (headSpec wsX11_ordered ({ frames := 1, cells := 0, slots := 0, locals := 23 })).room s m (#[.ref (ad 0), .int a1]) below meth c H locs 0 0 (MQ below (va_Qi (fun (r : Int32) (_ : Unit) => r = r0) (fun (_ : Unit) t => wAt (dC, dI) A (wG (cC cy ad τ) ad (182 + 6 * nb) σ) t) A) (#[.ref (ad 0), .int a1]) s 0 0 A) (F0 m 0 ls []) := by
    intro σ x1 H locs ls h hP hD hS hl
    unfold fX11_ordered_0 at h
    refine lv_iload_n hx hb dX11_ordered_0 rfl (lv_at hl 1 rfl) ?_
    refine lv_if_lt (tgt := 27) hx hb dX11_ordered_1 (by decide) (fun hcd => ?_) (fun hcd => ?_)
    · have h := cdP hcd h
      refine lv_iconst (v := (-1)) hx hb dX11_ordered_27 (by decide) ?_
      exact ux_iretP hx hb hr h hP hD hS hlocks dX11_ordered_28
    · have h := cdN hcd h
      refine lv_iload_n hx hb dX11_ordered_4 rfl (lv_at hl 1 rfl) ?_
      refine lv_aload_n hx hb dX11_ordered_5 rfl (lv_at hl 0 rfl) ?_
      refine ux_get (D := (dC, dI)) (ci := 11) (v := .ref (ad 27)) (C := RX11) (T := TX11) (M := 13) (fs := (oSR ad (σ.1 0))) hx hb hts (fun _ h9 => List.mem_cons_of_mem _ (List.mem_append_left _ (List.mem_append_right _ h9))) hown hK hP 0 (Nat.lt_of_lt_of_le (Nat.le_of_ble_eq_true rfl : 0 < 182) (Nat.le_add_right _ _)) (cC_0 _ _ _ _ _) rfl 9 (by decide) (hts (.fieldLink RX11 75 "SeatsRound" "orders" "LSeatsRound$Orders;") (List.mem_of_getElem? (i := 1) rfl)) (fun _ h9 => h9) rfl dX11_ordered_6 ?_
      refine ux_get (D := (dC, dI)) (ci := 5) (v := .int (σ.1 27 3)) (C := RX5) (T := TX5) (M := 10) (fs := (oOR ad (σ.1 27))) hx hb hts (fun _ h9 => List.mem_cons_of_mem _ (List.mem_append_right _ h9)) hown hK hP 27 (Nat.lt_of_lt_of_le (Nat.le_of_ble_eq_true rfl : 27 < 182) (Nat.le_add_right _ _)) (cC_27 _ _ _ _ _) rfl 3 (by decide) (hts (.fieldLink RX11 330 "SeatsRound$Orders" "pathLength" "I") (List.mem_of_getElem? (i := 2) rfl)) (fun _ h9 => h9) rfl dX11_ordered_9 ?_
      refine lv_icmp_ge (tgt := 27) hx hb dX11_ordered_12 (by decide) (fun hcd => ?_) (fun hcd => ?_)
      · have h := cdP hcd h
        refine lv_iconst (v := (-1)) hx hb dX11_ordered_27 (by decide) ?_
        exact ux_iretP hx hb hr h hP hD hS hlocks dX11_ordered_28
      · have h := cdN hcd h
        refine lv_aload_n hx hb dX11_ordered_15 rfl (lv_at hl 0 rfl) ?_
        refine ux_get (D := (dC, dI)) (ci := 11) (v := .ref (ad 27)) (C := RX11) (T := TX11) (M := 13) (fs := (oSR ad (σ.1 0))) hx hb hts (fun _ h9 => List.mem_cons_of_mem _ (List.mem_append_left _ (List.mem_append_right _ h9))) hown hK hP 0 (Nat.lt_of_lt_of_le (Nat.le_of_ble_eq_true rfl : 0 < 182) (Nat.le_add_right _ _)) (cC_0 _ _ _ _ _) rfl 9 (by decide) (hts (.fieldLink RX11 75 "SeatsRound" "orders" "LSeatsRound$Orders;") (List.mem_of_getElem? (i := 1) rfl)) (fun _ h9 => h9) rfl dX11_ordered_16 ?_
        refine ux_get (D := (dC, dI)) (ci := 5) (v := .ref (ad 29)) (C := RX5) (T := TX5) (M := 10) (fs := (oOR ad (σ.1 27))) hx hb hts (fun _ h9 => List.mem_cons_of_mem _ (List.mem_append_right _ h9)) hown hK hP 27 (Nat.lt_of_lt_of_le (Nat.le_of_ble_eq_true rfl : 27 < 182) (Nat.le_add_right _ _)) (cC_27 _ _ _ _ _) rfl 2 (by decide) (hts (.fieldLink RX11 333 "SeatsRound$Orders" "path" "[I") (List.mem_of_getElem? (i := 3) rfl)) (fun _ h9 => h9) rfl dX11_ordered_19 ?_
        refine lv_iload_n hx hb dX11_ordered_22 rfl (lv_at hl 1 rfl) ?_
        refine ux_iald hx hb hK hP 29 0 (Nat.lt_of_lt_of_le (Nat.le_of_ble_eq_true rfl : 29 < 182) (Nat.le_add_right _ _)) (cC_29 _ _ _ _ _) rfl h dX11_ordered_23 (fun v1 h => ?_)
        refine lv_goto (tgt := 28) hx hb dX11_ordered_24 (by decide) ?_
        exact ux_iretP hx hb hr h hP hD hS hlocks dX11_ordered_28
  intro H locs ls h hP hD hS hl
  exact w0 σ a1 H locs ls h hP hD hS (lv_sub hl [0, 1] rfl)

set_option maxHeartbeats 4000000 in
set_option maxRecDepth 100000 in
theorem tX11_turning (l : Launch) (dC : Nat → ClassId) (dI : Nat → Nat → Nat) (cy : Nat → ClassId) (ad : Nat → Nat) (τ nb : Nat) (hτ : τ < nb) (σ : S2) (a1 : Int32) (sz : Nat) (r0 : Int32) (σ9 : S2) (h : fX11_turning τ σ a1 = some (r0, σ9)) : Met l yX11_turning wsX11_turning ({ frames := 1, cells := 0, slots := 0, locals := 23 }) (va_Pc [.ref (ad 0), .int a1] (wPre (dC, dI) cy (wG (cC cy ad τ) ad (182 + 6 * nb) σ) sz)) (va_Qi (fun (r : Int32) (_ : Unit) => r = r0) (fun (_ : Unit) t => wAt (dC, dI) (va_A (wG (cC cy ad τ) ad (182 + 6 * nb) σ) sz) (wG (cC cy ad τ) ad (182 + 6 * nb) σ9) t) (va_A (wG (cC cy ad τ) ad (182 + 6 * nb) σ) sz)) 0 0 (va_A (wG (cC cy ad τ) ad (182 + 6 * nb) σ) sz) := by
  refine Met.ofW (cc := cX11_turning) (maxL := 2) (ret := (some .int)) (by decide) rfl ?_
  intro p e s m args below meth c s₁ B hml hv
  obtain ⟨rfl, hsz, hP, hK, hD0, hN⟩ := hv
  have hx := B.exec
  have hb := B.bytes
  have hr := B.returns
  have hts := atoms_spec (ws := wsX11_turning) B.pre
  have hown : s.vm.findClass RX11 = some m.cls := findClass_of_methodNamed B.named
  have hlocks := B.notSynchronized
  subst hsz
  have hD := hD0.self (sz := s.heap.size)
  generalize hAe : va_A (wG (cC cy ad τ) ad (182 + 6 * nb) σ) s.heap.size = A at hD ⊢
  have hA : ∀ q : Nat, s.heap.size ≤ q → A q := fun q h => by rw [← hAe]; exact Or.inr h
  have hS : va_S A s.heap s.heap [] := va_S.rf
  have hl := lv_entry ([.ref (ad 0), .int a1]) (n := 2) (Nat.le_of_ble_eq_true rfl)
  rw [lg_entry_eq]
  generalize (lg_sl ([.ref (ad 0), .int a1]) ++ List.replicate (2 - (lg_sl ([.ref (ad 0), .int a1])).length) Slot.unset).toArray = ls at hl ⊢
  have hl : lv_has ls 2 [(0, .ref (ad 0)), (1, .int a1)] := hl
  unfold fX11_turning at h
  clear hAe hD0
  suffices HH : ∀ (H : Heap) (locs : List Loc) (ls : Array Slot), fX11_turning_0 τ σ a1 = some (r0, σ9) → va_P (dC, dI) vwCl (wG (cC cy ad τ) ad (182 + 6 * nb) σ) H → va_D A (wG (cC cy ad τ) ad (182 + 6 * nb) σ) → va_S A s.heap H locs → lv_has ls 2 [(0, .ref (ad 0)), (1, .int a1)] → W p l e (headSpec wsX11_turning ({ frames := 1, cells := 0, slots := 0, locals := 23 })).room s m (#[.ref (ad 0), .int a1]) below meth c H locs 0 0 (MQ below (va_Qi (fun (r : Int32) (_ : Unit) => r = r0) (fun (_ : Unit) t => wAt (dC, dI) A (wG (cC cy ad τ) ad (182 + 6 * nb) σ9) t) A) (#[.ref (ad 0), .int a1]) s 0 0 A) (F0 m 0 ls []) from HH s.heap [] ls h hP hD hS hl
  have w0 : ∀ (σ : S2) (x1 : Int32) (H : Heap) (locs : List Loc) (ls : Array Slot), fX11_turning_0 τ σ x1 = some (r0, σ9) → va_P (dC, dI) vwCl (wG (cC cy ad τ) ad (182 + 6 * nb) σ) H → va_D A (wG (cC cy ad τ) ad (182 + 6 * nb) σ) → va_S A s.heap H locs → lv_has ls 2 [(0, .ref (ad 0)), (1, .int x1)] → W p l e (headSpec wsX11_turning ({ frames := 1, cells := 0, slots := 0, locals := 23 })).room s m (#[.ref (ad 0), .int a1]) below meth c H locs 0 0 (MQ below (va_Qi (fun (r : Int32) (_ : Unit) => r = r0) (fun (_ : Unit) t => wAt (dC, dI) A (wG (cC cy ad τ) ad (182 + 6 * nb) σ9) t) A) (#[.ref (ad 0), .int a1]) s 0 0 A) (F0 m 0 ls []) := by
    intro σ x1 H locs ls h hP hD hS hl
    unfold fX11_turning_0 at h
    refine lv_aload_n hx hb dX11_turning_0 rfl (lv_at hl 0 rfl) ?_
    refine ux_get (D := (dC, dI)) (ci := 11) (v := .ref (ad 32)) (C := RX11) (T := TX11) (M := 13) (fs := (oSR ad (σ.1 0))) hx hb hts (fun _ h9 => List.mem_cons_of_mem _ (List.mem_append_left _ (List.mem_append_right _ h9))) hown hK hP 0 (Nat.lt_of_lt_of_le (Nat.le_of_ble_eq_true rfl : 0 < 182) (Nat.le_add_right _ _)) (cC_0 _ _ _ _ _) rfl 10 (by decide) (hts (.fieldLink RX11 84 "SeatsRound" "turnings" "LSeatsRound$Turnings;") (List.mem_of_getElem? (i := 1) rfl)) (fun _ h9 => h9) rfl dX11_turning_1 ?_
    refine ux_get (D := (dC, dI)) (ci := 10) (v := .int (σ.1 32 1)) (C := RX10) (T := TX10) (M := 5) (fs := (oTU ad (σ.1 32))) hx hb hts (fun _ h9 => List.mem_cons_of_mem _ (List.mem_append_right _ h9)) hown hK hP 32 (Nat.lt_of_lt_of_le (Nat.le_of_ble_eq_true rfl : 32 < 182) (Nat.le_add_right _ _)) (cC_32 _ _ _ _ _) rfl 1 (by decide) (hts (.fieldLink RX11 336 "SeatsRound$Turnings" "count" "I") (List.mem_of_getElem? (i := 2) rfl)) (fun _ h9 => h9) rfl dX11_turning_4 ?_
    refine lv_bipush (v := 6) hx hb dX11_turning_7 (by decide) ?_
    refine lv_icmp_lt (tgt := 15) hx hb dX11_turning_9 (by decide) (fun hcd => ?_) (fun hcd => ?_)
    · have h := cdP hcd h
      refine lv_aload_n hx hb dX11_turning_15 rfl (lv_at hl 0 rfl) ?_
      refine ux_get (D := (dC, dI)) (ci := 11) (v := .ref (ad 32)) (C := RX11) (T := TX11) (M := 13) (fs := (oSR ad (σ.1 0))) hx hb hts (fun _ h9 => List.mem_cons_of_mem _ (List.mem_append_left _ (List.mem_append_right _ h9))) hown hK hP 0 (Nat.lt_of_lt_of_le (Nat.le_of_ble_eq_true rfl : 0 < 182) (Nat.le_add_right _ _)) (cC_0 _ _ _ _ _) rfl 10 (by decide) (hts (.fieldLink RX11 84 "SeatsRound" "turnings" "LSeatsRound$Turnings;") (List.mem_of_getElem? (i := 1) rfl)) (fun _ h9 => h9) rfl dX11_turning_16 ?_
      refine ux_get (D := (dC, dI)) (ci := 10) (v := .ref (ad 33)) (C := RX10) (T := TX10) (M := 5) (fs := (oTU ad (σ.1 32))) hx hb hts (fun _ h9 => List.mem_cons_of_mem _ (List.mem_append_right _ h9)) hown hK hP 32 (Nat.lt_of_lt_of_le (Nat.le_of_ble_eq_true rfl : 32 < 182) (Nat.le_add_right _ _)) (cC_32 _ _ _ _ _) rfl 0 (by decide) (hts (.fieldLink RX11 337 "SeatsRound$Turnings" "told" "[I") (List.mem_of_getElem? (i := 3) rfl)) (fun _ h9 => h9) rfl dX11_turning_19 ?_
      refine lv_aload_n hx hb dX11_turning_22 rfl (lv_at hl 0 rfl) ?_
      refine ux_get (D := (dC, dI)) (ci := 11) (v := .ref (ad 32)) (C := RX11) (T := TX11) (M := 13) (fs := (oSR ad (σ.1 0))) hx hb hts (fun _ h9 => List.mem_cons_of_mem _ (List.mem_append_left _ (List.mem_append_right _ h9))) hown hK hP 0 (Nat.lt_of_lt_of_le (Nat.le_of_ble_eq_true rfl : 0 < 182) (Nat.le_add_right _ _)) (cC_0 _ _ _ _ _) rfl 10 (by decide) (hts (.fieldLink RX11 84 "SeatsRound" "turnings" "LSeatsRound$Turnings;") (List.mem_of_getElem? (i := 1) rfl)) (fun _ h9 => h9) rfl dX11_turning_23 ?_
      refine ux_get (D := (dC, dI)) (ci := 10) (v := .int (σ.1 32 1)) (C := RX10) (T := TX10) (M := 5) (fs := (oTU ad (σ.1 32))) hx hb hts (fun _ h9 => List.mem_cons_of_mem _ (List.mem_append_right _ h9)) hown hK hP 32 (Nat.lt_of_lt_of_le (Nat.le_of_ble_eq_true rfl : 32 < 182) (Nat.le_add_right _ _)) (cC_32 _ _ _ _ _) rfl 1 (by decide) (hts (.fieldLink RX11 336 "SeatsRound$Turnings" "count" "I") (List.mem_of_getElem? (i := 2) rfl)) (fun _ h9 => h9) rfl dX11_turning_26 ?_
      refine lv_iload_n hx hb dX11_turning_29 rfl (lv_at hl 1 rfl) ?_
      refine ux_iast hx hb hK hP hD hS 33 0 (Nat.lt_of_lt_of_le (Nat.le_of_ble_eq_true rfl : 33 < 182) (Nat.le_add_right _ _)) (fun _ => (cC_33 _ _ _ _ _)) rfl h dX11_turning_30 (fun σ1 H locs h hP hD hS => ?_)
      change W _ _ _ _ _ _ _ _ _ _ _ _ _ _ _ (F0 m 31 ls [])
      refine lv_aload_n hx hb dX11_turning_31 rfl (lv_at hl 0 rfl) ?_
      refine ux_get (D := (dC, dI)) (ci := 11) (v := .ref (ad 32)) (C := RX11) (T := TX11) (M := 13) (fs := (oSR ad (σ1.1 0))) hx hb hts (fun _ h9 => List.mem_cons_of_mem _ (List.mem_append_left _ (List.mem_append_right _ h9))) hown hK hP 0 (Nat.lt_of_lt_of_le (Nat.le_of_ble_eq_true rfl : 0 < 182) (Nat.le_add_right _ _)) (cC_0 _ _ _ _ _) rfl 10 (by decide) (hts (.fieldLink RX11 84 "SeatsRound" "turnings" "LSeatsRound$Turnings;") (List.mem_of_getElem? (i := 1) rfl)) (fun _ h9 => h9) rfl dX11_turning_32 ?_
      refine lv_dup hx hb dX11_turning_35 rfl ?_
      refine ux_get (D := (dC, dI)) (ci := 10) (v := .int (σ1.1 32 1)) (C := RX10) (T := TX10) (M := 5) (fs := (oTU ad (σ1.1 32))) hx hb hts (fun _ h9 => List.mem_cons_of_mem _ (List.mem_append_right _ h9)) hown hK hP 32 (Nat.lt_of_lt_of_le (Nat.le_of_ble_eq_true rfl : 32 < 182) (Nat.le_add_right _ _)) (cC_32 _ _ _ _ _) rfl 1 (by decide) (hts (.fieldLink RX11 336 "SeatsRound$Turnings" "count" "I") (List.mem_of_getElem? (i := 2) rfl)) (fun _ h9 => h9) rfl dX11_turning_36 ?_
      refine lv_iconst (v := 1) hx hb dX11_turning_39 (by decide) ?_
      refine lv_iadd hx hb dX11_turning_40 ?_
      refine ux_put (D := (dC, dI)) (ci := 10) (C := RX10) (T := TX10) (M := 5) (fs := (oTU ad (σ1.1 32))) hx hb hts (fun _ h9 => List.mem_cons_of_mem _ (List.mem_append_right _ h9)) tyX10 tyX10_ok nmX10 hown hK hP hD hS 32 (Nat.lt_of_lt_of_le (Nat.le_of_ble_eq_true rfl : 32 < 182) (Nat.le_add_right _ _)) (cC_32 _ _ _ _ _) rfl 1 (by decide) (hts (.fieldLink RX11 336 "SeatsRound$Turnings" "count" "I") (List.mem_of_getElem? (i := 2) rfl)) (fun _ h9 => h9) rfl (tyX10_ok 1 (by decide)) rfl rfl (Nat.le_of_ble_eq_true rfl) (oC_32_1 _ _ _ _ _ _) h dX11_turning_41 (fun σ2 H locs h hP hD hS => ?_)
      refine lv_aload_n hx hb dX11_turning_44 rfl (lv_at hl 0 rfl) ?_
      refine ux_get (D := (dC, dI)) (ci := 11) (v := .ref (ad 32)) (C := RX11) (T := TX11) (M := 13) (fs := (oSR ad (σ2.1 0))) hx hb hts (fun _ h9 => List.mem_cons_of_mem _ (List.mem_append_left _ (List.mem_append_right _ h9))) hown hK hP 0 (Nat.lt_of_lt_of_le (Nat.le_of_ble_eq_true rfl : 0 < 182) (Nat.le_add_right _ _)) (cC_0 _ _ _ _ _) rfl 10 (by decide) (hts (.fieldLink RX11 84 "SeatsRound" "turnings" "LSeatsRound$Turnings;") (List.mem_of_getElem? (i := 1) rfl)) (fun _ h9 => h9) rfl dX11_turning_45 ?_
      refine ux_get (D := (dC, dI)) (ci := 10) (v := .int (σ2.1 32 1)) (C := RX10) (T := TX10) (M := 5) (fs := (oTU ad (σ2.1 32))) hx hb hts (fun _ h9 => List.mem_cons_of_mem _ (List.mem_append_right _ h9)) hown hK hP 32 (Nat.lt_of_lt_of_le (Nat.le_of_ble_eq_true rfl : 32 < 182) (Nat.le_add_right _ _)) (cC_32 _ _ _ _ _) rfl 1 (by decide) (hts (.fieldLink RX11 336 "SeatsRound$Turnings" "count" "I") (List.mem_of_getElem? (i := 2) rfl)) (fun _ h9 => h9) rfl dX11_turning_48 ?_
      exact ux_iret hx hb hr h hP hD hS hlocks dX11_turning_51
    · have h := cdN hcd h
      refine lv_bipush (v := (-3)) hx hb dX11_turning_12 (by decide) ?_
      exact ux_iret hx hb hr h hP hD hS hlocks dX11_turning_14
  intro H locs ls h hP hD hS hl
  exact w0 σ a1 H locs ls h hP hD hS (lv_sub hl [0, 1] rfl)

set_option maxHeartbeats 4000000 in
set_option maxRecDepth 100000 in
theorem tX11_harm (l : Launch) (dC : Nat → ClassId) (dI : Nat → Nat → Nat) (cy : Nat → ClassId) (ad : Nat → Nat) (τ nb : Nat) (hτ : τ < nb) (σ : S2) (a1 : Int32) (sz : Nat) (r0 : Int32) (σ9 : S2) (h : fX11_harm τ σ a1 = some (r0, σ9)) : Met l yX11_harm wsX11_harm ({ frames := 6, cells := 0, slots := 0, locals := 139 }) (va_Pc [.ref (ad 0), .int a1] (wPre (dC, dI) cy (wG (cC cy ad τ) ad (182 + 6 * nb) σ) sz)) (va_Qi (fun (r : Int32) (_ : Unit) => r = r0) (fun (_ : Unit) t => wAt (dC, dI) (va_A (wG (cC cy ad τ) ad (182 + 6 * nb) σ) sz) (wG (cC cy ad τ) ad (182 + 6 * nb) σ9) t) (va_A (wG (cC cy ad τ) ad (182 + 6 * nb) σ) sz)) 0 0 (va_A (wG (cC cy ad τ) ad (182 + 6 * nb) σ) sz) := by
  refine Met.ofW (cc := cX11_harm) (maxL := 3) (ret := (some .int)) (by decide) rfl ?_
  intro p e s m args below meth c s₁ B hml hv
  obtain ⟨rfl, hsz, hP, hK, hD0, hN⟩ := hv
  have hx := B.exec
  have hb := B.bytes
  have hr := B.returns
  have hts := atoms_spec (ws := wsX11_harm) B.pre
  have hown : s.vm.findClass RX11 = some m.cls := findClass_of_methodNamed B.named
  have hlocks := B.notSynchronized
  subst hsz
  have hD := hD0.self (sz := s.heap.size)
  generalize hAe : va_A (wG (cC cy ad τ) ad (182 + 6 * nb) σ) s.heap.size = A at hD ⊢
  have hA : ∀ q : Nat, s.heap.size ≤ q → A q := fun q h => by rw [← hAe]; exact Or.inr h
  have hS : va_S A s.heap s.heap [] := va_S.rf
  have hl := lv_entry ([.ref (ad 0), .int a1]) (n := 3) (Nat.le_of_ble_eq_true rfl)
  rw [lg_entry_eq]
  generalize (lg_sl ([.ref (ad 0), .int a1]) ++ List.replicate (3 - (lg_sl ([.ref (ad 0), .int a1])).length) Slot.unset).toArray = ls at hl ⊢
  have hl : lv_has ls 3 [(0, .ref (ad 0)), (1, .int a1)] := hl
  unfold fX11_harm at h
  clear hAe hD0
  suffices HH : ∀ (H : Heap) (locs : List Loc) (ls : Array Slot), fX11_harm_0 τ σ a1 = some (r0, σ9) → va_P (dC, dI) vwCl (wG (cC cy ad τ) ad (182 + 6 * nb) σ) H → va_D A (wG (cC cy ad τ) ad (182 + 6 * nb) σ) → va_S A s.heap H locs → lv_has ls 3 [(0, .ref (ad 0)), (1, .int a1)] → W p l e (headSpec wsX11_harm ({ frames := 6, cells := 0, slots := 0, locals := 139 })).room s m (#[.ref (ad 0), .int a1]) below meth c H locs 0 0 (MQ below (va_Qi (fun (r : Int32) (_ : Unit) => r = r0) (fun (_ : Unit) t => wAt (dC, dI) A (wG (cC cy ad τ) ad (182 + 6 * nb) σ9) t) A) (#[.ref (ad 0), .int a1]) s 0 0 A) (F0 m 0 ls []) from HH s.heap [] ls h hP hD hS hl
  have w0 : ∀ (σ : S2) (x1 : Int32) (H : Heap) (locs : List Loc) (ls : Array Slot), fX11_harm_0 τ σ x1 = some (r0, σ9) → va_P (dC, dI) vwCl (wG (cC cy ad τ) ad (182 + 6 * nb) σ) H → va_D A (wG (cC cy ad τ) ad (182 + 6 * nb) σ) → va_S A s.heap H locs → lv_has ls 3 [(0, .ref (ad 0)), (1, .int x1)] → W p l e (headSpec wsX11_harm ({ frames := 6, cells := 0, slots := 0, locals := 139 })).room s m (#[.ref (ad 0), .int a1]) below meth c H locs 0 0 (MQ below (va_Qi (fun (r : Int32) (_ : Unit) => r = r0) (fun (_ : Unit) t => wAt (dC, dI) A (wG (cC cy ad τ) ad (182 + 6 * nb) σ9) t) A) (#[.ref (ad 0), .int a1]) s 0 0 A) (F0 m 0 ls []) := by
    intro σ x1 H locs ls h hP hD hS hl
    unfold fX11_harm_0 at h
    refine lv_aload_n hx hb dX11_harm_0 rfl (lv_at hl 0 rfl) ?_
    refine lv_iload_n hx hb dX11_harm_1 rfl (lv_at hl 1 rfl) ?_
    rcases btS h with ⟨hf1, h⟩ | ⟨b2, hf1, h⟩
    · have _ := hτ
      refine ux_callqN (va_runV (As := [.int x1]) (rest := []) ⟨hx, hb, hml, hown, hts⟩ (tX11_tableAt l dC dI cy ad τ nb hτ σ x1 H.size none hf1) (cwV 1 hts gX11_harm_X11_tableAt rfl rfl rfl (by decide +kernel) ⟨Nat.le_of_ble_eq_true rfl, Nat.le_of_ble_eq_true rfl⟩) (wp_V hK hN hP hD (va_recv hK hP (ci := 11) (q0 := 0) rfl (wG_of (Nat.lt_of_lt_of_le (Nat.le_of_ble_eq_true rfl : 0 < 182) (Nat.le_add_right _ _)) (cC_0 _ _ _ _ _)))) rfl rfl hl.1 rfl (lv_room (Nat.le_of_ble_eq_true rfl)) dX11_harm_2 ⟨Nat.le_of_ble_eq_true rfl, Nat.le_of_ble_eq_true rfl⟩) ?_
      refine lv_astore_nN (lv' := [(2, .null), (0, .ref (ad 0)), (1, .int x1)]) hx hb dX11_harm_5 rfl hl (by decide) rfl (fun ls hl => ?_)
      have hl := lv_sub hl [1, 2, 0] (l' := [(0, .ref (ad 0)), (1, .int x1), (2, .null)]) rfl
      refine lv_aload_nN hx hb dX11_harm_6 rfl (lv_at hl 2 rfl) ?_
      refine lv_ifnullN (tgt := 20) hx hb dX11_harm_7 (by decide) ?_
      refine lv_iconst (v := (-1)) hx hb dX11_harm_20 (by decide) ?_
      exact ux_iret hx hb hr h hP hD hS hlocks dX11_harm_21
    · have hb2 : b2 < nb := ux_tabB hτ hf1
      refine ux_callqS (va_runV (As := [.int x1]) (rest := []) ⟨hx, hb, hml, hown, hts⟩ (tX11_tableAt l dC dI cy ad τ nb hτ σ x1 H.size (some b2) hf1) (cwV 1 hts gX11_harm_X11_tableAt rfl rfl rfl (by decide +kernel) ⟨Nat.le_of_ble_eq_true rfl, Nat.le_of_ble_eq_true rfl⟩) (wp_V hK hN hP hD (va_recv hK hP (ci := 11) (q0 := 0) rfl (wG_of (Nat.lt_of_lt_of_le (Nat.le_of_ble_eq_true rfl : 0 < 182) (Nat.le_add_right _ _)) (cC_0 _ _ _ _ _)))) rfl rfl hl.1 rfl (lv_room (Nat.le_of_ble_eq_true rfl)) dX11_harm_2 ⟨Nat.le_of_ble_eq_true rfl, Nat.le_of_ble_eq_true rfl⟩) ?_
      refine lv_astore_n (lv' := [(2, .ref (ad (182 + 6 * b2))), (0, .ref (ad 0)), (1, .int x1)]) hx hb dX11_harm_5 rfl hl (by decide) rfl (fun ls hl => ?_)
      have hl := lv_sub hl [1, 2, 0] (l' := [(0, .ref (ad 0)), (1, .int x1), (2, .ref (ad (182 + 6 * b2)))]) rfl
      refine lv_aload_n hx hb dX11_harm_6 rfl (lv_at hl 2 rfl) ?_
      refine lv_ifnull hx hb dX11_harm_7 ?_
      refine lv_aload_n hx hb dX11_harm_10 rfl (lv_at hl 0 rfl) ?_
      refine ux_get (D := (dC, dI)) (ci := 11) (v := .ref (ad 32)) (C := RX11) (T := TX11) (M := 13) (fs := (oSR ad (σ.1 0))) hx hb hts (fun _ h9 => List.mem_cons_of_mem _ (List.mem_append_left _ (List.mem_append_left _ (List.mem_append_left _ (List.mem_append_right _ h9))))) hown hK hP 0 (Nat.lt_of_lt_of_le (Nat.le_of_ble_eq_true rfl : 0 < 182) (Nat.le_add_right _ _)) (cC_0 _ _ _ _ _) rfl 10 (by decide) (hts (.fieldLink RX11 84 "SeatsRound" "turnings" "LSeatsRound$Turnings;") (List.mem_of_getElem? (i := 1) rfl)) (fun _ h9 => h9) rfl dX11_harm_11 ?_
      refine ux_get (D := (dC, dI)) (ci := 10) (v := .int (σ.1 32 1)) (C := RX10) (T := TX10) (M := 5) (fs := (oTU ad (σ.1 32))) hx hb hts (fun _ h9 => List.mem_cons_of_mem _ (List.mem_append_left _ (List.mem_append_left _ (List.mem_append_right _ h9)))) hown hK hP 32 (Nat.lt_of_lt_of_le (Nat.le_of_ble_eq_true rfl : 32 < 182) (Nat.le_add_right _ _)) (cC_32 _ _ _ _ _) rfl 1 (by decide) (hts (.fieldLink RX11 336 "SeatsRound$Turnings" "count" "I") (List.mem_of_getElem? (i := 2) rfl)) (fun _ h9 => h9) rfl dX11_harm_14 ?_
      refine lv_if_ne (tgt := 22) hx hb dX11_harm_17 (by decide) (fun hcd => ?_) (fun hcd => ?_)
      · have h := cdN hcd h
        refine lv_aload_n hx hb dX11_harm_22 rfl (lv_at hl 0 rfl) ?_
        refine ux_get (D := (dC, dI)) (ci := 11) (v := .ref (ad 32)) (C := RX11) (T := TX11) (M := 13) (fs := (oSR ad (σ.1 0))) hx hb hts (fun _ h9 => List.mem_cons_of_mem _ (List.mem_append_left _ (List.mem_append_left _ (List.mem_append_left _ (List.mem_append_right _ h9))))) hown hK hP 0 (Nat.lt_of_lt_of_le (Nat.le_of_ble_eq_true rfl : 0 < 182) (Nat.le_add_right _ _)) (cC_0 _ _ _ _ _) rfl 10 (by decide) (hts (.fieldLink RX11 84 "SeatsRound" "turnings" "LSeatsRound$Turnings;") (List.mem_of_getElem? (i := 1) rfl)) (fun _ h9 => h9) rfl dX11_harm_23 ?_
        refine lv_aload_n hx hb dX11_harm_26 rfl (lv_at hl 2 rfl) ?_
        refine lv_aload_n hx hb dX11_harm_27 rfl (lv_at hl 0 rfl) ?_
        refine ux_get (D := (dC, dI)) (ci := 11) (v := .ref (ad 182)) (C := RX11) (T := TX11) (M := 13) (fs := (oSR ad (σ.1 0))) hx hb hts (fun _ h9 => List.mem_cons_of_mem _ (List.mem_append_left _ (List.mem_append_left _ (List.mem_append_left _ (List.mem_append_right _ h9))))) hown hK hP 0 (Nat.lt_of_lt_of_le (Nat.le_of_ble_eq_true rfl : 0 < 182) (Nat.le_add_right _ _)) (cC_0 _ _ _ _ _) rfl 7 (by decide) (hts (.fieldLink RX11 57 "SeatsRound" "draft" "LSeatsRound$Table;") (List.mem_of_getElem? (i := 3) rfl)) (fun _ h9 => h9) rfl dX11_harm_28 ?_
        obtain ⟨r3, σ4, hf5, h⟩ := bsS h
        refine ux_calli (va_runV (As := [.ref (ad (182 + 6 * b2)), .ref (ad 182)]) (rest := []) ⟨hx, hb, hml, hown, hts⟩ (tX10_leastHarm l dC dI cy ad τ nb hτ b2 (by omega) σ H.size r3 σ4 hf5) (cwV 2 hts gX11_harm_X10_leastHarm rfl rfl rfl (by decide +kernel) ⟨Nat.le_of_ble_eq_true rfl, Nat.le_of_ble_eq_true rfl⟩) (wp_V hK hN hP hD (va_recv hK hP (ci := 10) (q0 := 32) rfl (wG_of (Nat.lt_of_lt_of_le (Nat.le_of_ble_eq_true rfl : 32 < 182) (Nat.le_add_right _ _)) (cC_32 _ _ _ _ _)))) rfl rfl hl.1 rfl (lv_room (Nat.le_of_ble_eq_true rfl)) dX11_harm_31 ⟨Nat.le_of_ble_eq_true rfl, Nat.le_of_ble_eq_true rfl⟩) hD hS hA (fun H locs hP hD hS => ?_)
        exact ux_iret hx hb hr h hP hD hS hlocks dX11_harm_34
      · have h := cdP hcd h
        refine lv_iconst (v := (-1)) hx hb dX11_harm_20 (by decide) ?_
        exact ux_iret hx hb hr h hP hD hS hlocks dX11_harm_21
  intro H locs ls h hP hD hS hl
  exact w0 σ a1 H locs ls h hP hD hS (lv_sub hl [0, 1] rfl)

set_option maxHeartbeats 4000000 in
set_option maxRecDepth 100000 in
theorem tX11_harmed (l : Launch) (dC : Nat → ClassId) (dI : Nat → Nat → Nat) (cy : Nat → ClassId) (ad : Nat → Nat) (τ nb : Nat) (hτ : τ < nb) (σ : S2)  (sz : Nat) (r0 : Int32) (h : fX11_harmed τ σ = some r0) : Met l yX11_harmed wsX11_harmed ({ frames := 1, cells := 0, slots := 0, locals := 23 }) (va_Pc [.ref (ad 0)] (wPre (dC, dI) cy (wG (cC cy ad τ) ad (182 + 6 * nb) σ) sz)) (va_Qi (fun (r : Int32) (_ : Unit) => r = r0) (fun (_ : Unit) t => wAt (dC, dI) (va_A (wG (cC cy ad τ) ad (182 + 6 * nb) σ) sz) (wG (cC cy ad τ) ad (182 + 6 * nb) σ) t) (va_A (wG (cC cy ad τ) ad (182 + 6 * nb) σ) sz)) 0 0 (va_A (wG (cC cy ad τ) ad (182 + 6 * nb) σ) sz) := by
  refine Met.ofW (cc := cX11_harmed) (maxL := 1) (ret := (some .int)) (by decide) rfl ?_
  intro p e s m args below meth c s₁ B hml hv
  obtain ⟨rfl, hsz, hP, hK, hD0, hN⟩ := hv
  have hx := B.exec
  have hb := B.bytes
  have hr := B.returns
  have hts := atoms_spec (ws := wsX11_harmed) B.pre
  have hown : s.vm.findClass RX11 = some m.cls := findClass_of_methodNamed B.named
  have hlocks := B.notSynchronized
  subst hsz
  have hD := hD0.self (sz := s.heap.size)
  generalize hAe : va_A (wG (cC cy ad τ) ad (182 + 6 * nb) σ) s.heap.size = A at hD ⊢
  have hA : ∀ q : Nat, s.heap.size ≤ q → A q := fun q h => by rw [← hAe]; exact Or.inr h
  have hS : va_S A s.heap s.heap [] := va_S.rf
  have hl := lv_entry ([.ref (ad 0)]) (n := 1) (Nat.le_of_ble_eq_true rfl)
  rw [lg_entry_eq]
  generalize (lg_sl ([.ref (ad 0)]) ++ List.replicate (1 - (lg_sl ([.ref (ad 0)])).length) Slot.unset).toArray = ls at hl ⊢
  have hl : lv_has ls 1 [(0, .ref (ad 0))] := hl
  unfold fX11_harmed at h
  clear hAe hD0
  suffices HH : ∀ (H : Heap) (locs : List Loc) (ls : Array Slot), fX11_harmed_0 τ σ = some r0 → va_P (dC, dI) vwCl (wG (cC cy ad τ) ad (182 + 6 * nb) σ) H → va_D A (wG (cC cy ad τ) ad (182 + 6 * nb) σ) → va_S A s.heap H locs → lv_has ls 1 [(0, .ref (ad 0))] → W p l e (headSpec wsX11_harmed ({ frames := 1, cells := 0, slots := 0, locals := 23 })).room s m (#[.ref (ad 0)]) below meth c H locs 0 0 (MQ below (va_Qi (fun (r : Int32) (_ : Unit) => r = r0) (fun (_ : Unit) t => wAt (dC, dI) A (wG (cC cy ad τ) ad (182 + 6 * nb) σ) t) A) (#[.ref (ad 0)]) s 0 0 A) (F0 m 0 ls []) from HH s.heap [] ls h hP hD hS hl
  have w0 : ∀ (σ : S2)  (H : Heap) (locs : List Loc) (ls : Array Slot), fX11_harmed_0 τ σ = some r0 → va_P (dC, dI) vwCl (wG (cC cy ad τ) ad (182 + 6 * nb) σ) H → va_D A (wG (cC cy ad τ) ad (182 + 6 * nb) σ) → va_S A s.heap H locs → lv_has ls 1 [(0, .ref (ad 0))] → W p l e (headSpec wsX11_harmed ({ frames := 1, cells := 0, slots := 0, locals := 23 })).room s m (#[.ref (ad 0)]) below meth c H locs 0 0 (MQ below (va_Qi (fun (r : Int32) (_ : Unit) => r = r0) (fun (_ : Unit) t => wAt (dC, dI) A (wG (cC cy ad τ) ad (182 + 6 * nb) σ) t) A) (#[.ref (ad 0)]) s 0 0 A) (F0 m 0 ls []) := by
    intro σ H locs ls h hP hD hS hl
    unfold fX11_harmed_0 at h
    refine lv_aload_n hx hb dX11_harmed_0 rfl (lv_at hl 0 rfl) ?_
    refine ux_get (D := (dC, dI)) (ci := 11) (v := .ref (ad 32)) (C := RX11) (T := TX11) (M := 13) (fs := (oSR ad (σ.1 0))) hx hb hts (fun _ h9 => List.mem_cons_of_mem _ (List.mem_append_left _ (List.mem_append_right _ h9))) hown hK hP 0 (Nat.lt_of_lt_of_le (Nat.le_of_ble_eq_true rfl : 0 < 182) (Nat.le_add_right _ _)) (cC_0 _ _ _ _ _) rfl 10 (by decide) (hts (.fieldLink RX11 84 "SeatsRound" "turnings" "LSeatsRound$Turnings;") (List.mem_of_getElem? (i := 1) rfl)) (fun _ h9 => h9) rfl dX11_harmed_1 ?_
    refine ux_get (D := (dC, dI)) (ci := 10) (v := .int (σ.1 32 2)) (C := RX10) (T := TX10) (M := 5) (fs := (oTU ad (σ.1 32))) hx hb hts (fun _ h9 => List.mem_cons_of_mem _ (List.mem_append_right _ h9)) hown hK hP 32 (Nat.lt_of_lt_of_le (Nat.le_of_ble_eq_true rfl : 32 < 182) (Nat.le_add_right _ _)) (cC_32 _ _ _ _ _) rfl 2 (by decide) (hts (.fieldLink RX11 341 "SeatsRound$Turnings" "greatest" "I") (List.mem_of_getElem? (i := 2) rfl)) (fun _ h9 => h9) rfl dX11_harmed_4 ?_
    refine lv_iconst (v := (-1)) hx hb dX11_harmed_7 (by decide) ?_
    refine lv_icmp_ne (tgt := 15) hx hb dX11_harmed_8 (by decide) (fun hcd => ?_) (fun hcd => ?_)
    · have h := cdN hcd h
      refine lv_aload_n hx hb dX11_harmed_15 rfl (lv_at hl 0 rfl) ?_
      refine ux_get (D := (dC, dI)) (ci := 11) (v := .ref (ad 32)) (C := RX11) (T := TX11) (M := 13) (fs := (oSR ad (σ.1 0))) hx hb hts (fun _ h9 => List.mem_cons_of_mem _ (List.mem_append_left _ (List.mem_append_right _ h9))) hown hK hP 0 (Nat.lt_of_lt_of_le (Nat.le_of_ble_eq_true rfl : 0 < 182) (Nat.le_add_right _ _)) (cC_0 _ _ _ _ _) rfl 10 (by decide) (hts (.fieldLink RX11 84 "SeatsRound" "turnings" "LSeatsRound$Turnings;") (List.mem_of_getElem? (i := 1) rfl)) (fun _ h9 => h9) rfl dX11_harmed_16 ?_
      refine ux_get (D := (dC, dI)) (ci := 10) (v := .int (σ.1 32 2)) (C := RX10) (T := TX10) (M := 5) (fs := (oTU ad (σ.1 32))) hx hb hts (fun _ h9 => List.mem_cons_of_mem _ (List.mem_append_right _ h9)) hown hK hP 32 (Nat.lt_of_lt_of_le (Nat.le_of_ble_eq_true rfl : 32 < 182) (Nat.le_add_right _ _)) (cC_32 _ _ _ _ _) rfl 2 (by decide) (hts (.fieldLink RX11 341 "SeatsRound$Turnings" "greatest" "I") (List.mem_of_getElem? (i := 2) rfl)) (fun _ h9 => h9) rfl dX11_harmed_19 ?_
      exact ux_iretP hx hb hr h hP hD hS hlocks dX11_harmed_22
    · have h := cdP hcd h
      refine lv_iconst (v := (-1)) hx hb dX11_harmed_11 (by decide) ?_
      refine lv_goto (tgt := 22) hx hb dX11_harmed_12 (by decide) ?_
      exact ux_iretP hx hb hr h hP hD hS hlocks dX11_harmed_22
  intro H locs ls h hP hD hS hl
  exact w0 σ H locs ls h hP hD hS (lv_sub hl [0] rfl)

set_option maxHeartbeats 4000000 in
set_option maxRecDepth 100000 in
theorem tX11_act (l : Launch) (dC : Nat → ClassId) (dI : Nat → Nat → Nat) (cy : Nat → ClassId) (ad : Nat → Nat) (τ nb : Nat) (hτ : τ < nb) (σ : S2) (a1 : Int32) (a2 : Int32) (a3 : Int32) (sz : Nat) (r0 : Int32) (σ9 : S2) (h : fX11_act τ σ a1 a2 a3 = some (r0, σ9)) : Met l yX11_act wsX11_act ({ frames := 103, cells := 0, slots := 0, locals := 2344 }) (va_Pc [.ref (ad 0), .int a1, .int a2, .int a3] (wPre (dC, dI) cy (wG (cC cy ad τ) ad (182 + 6 * nb) σ) sz)) (va_Qi (fun (r : Int32) (_ : Unit) => r = r0) (fun (_ : Unit) t => wAt (dC, dI) (va_A (wG (cC cy ad τ) ad (182 + 6 * nb) σ) sz) (wG (cC cy ad τ) ad (182 + 6 * nb) σ9) t) (va_A (wG (cC cy ad τ) ad (182 + 6 * nb) σ) sz)) 0 0 (va_A (wG (cC cy ad τ) ad (182 + 6 * nb) σ) sz) := by
  refine Met.ofW (cc := cX11_act) (maxL := 4) (ret := (some .int)) (by decide) rfl ?_
  intro p e s m args below meth c s₁ B hml hv
  obtain ⟨rfl, hsz, hP, hK, hD0, hN⟩ := hv
  have hx := B.exec
  have hb := B.bytes
  have hr := B.returns
  have hts := atoms_spec (ws := wsX11_act) B.pre
  have hown : s.vm.findClass RX11 = some m.cls := findClass_of_methodNamed B.named
  have hlocks := B.notSynchronized
  subst hsz
  have hD := hD0.self (sz := s.heap.size)
  generalize hAe : va_A (wG (cC cy ad τ) ad (182 + 6 * nb) σ) s.heap.size = A at hD ⊢
  have hA : ∀ q : Nat, s.heap.size ≤ q → A q := fun q h => by rw [← hAe]; exact Or.inr h
  have hS : va_S A s.heap s.heap [] := va_S.rf
  have hl := lv_entry ([.ref (ad 0), .int a1, .int a2, .int a3]) (n := 4) (Nat.le_of_ble_eq_true rfl)
  rw [lg_entry_eq]
  generalize (lg_sl ([.ref (ad 0), .int a1, .int a2, .int a3]) ++ List.replicate (4 - (lg_sl ([.ref (ad 0), .int a1, .int a2, .int a3])).length) Slot.unset).toArray = ls at hl ⊢
  have hl : lv_has ls 4 [(0, .ref (ad 0)), (1, .int a1), (2, .int a2), (3, .int a3)] := hl
  unfold fX11_act at h
  clear hAe hD0
  suffices HH : ∀ (H : Heap) (locs : List Loc) (ls : Array Slot), fX11_act_0 τ σ a1 a2 a3 = some (r0, σ9) → va_P (dC, dI) vwCl (wG (cC cy ad τ) ad (182 + 6 * nb) σ) H → va_D A (wG (cC cy ad τ) ad (182 + 6 * nb) σ) → va_S A s.heap H locs → lv_has ls 4 [(0, .ref (ad 0)), (1, .int a1), (2, .int a2), (3, .int a3)] → W p l e (headSpec wsX11_act ({ frames := 103, cells := 0, slots := 0, locals := 2344 })).room s m (#[.ref (ad 0), .int a1, .int a2, .int a3]) below meth c H locs 0 0 (MQ below (va_Qi (fun (r : Int32) (_ : Unit) => r = r0) (fun (_ : Unit) t => wAt (dC, dI) A (wG (cC cy ad τ) ad (182 + 6 * nb) σ9) t) A) (#[.ref (ad 0), .int a1, .int a2, .int a3]) s 0 0 A) (F0 m 0 ls []) from HH s.heap [] ls h hP hD hS hl
  have w0 : ∀ (σ : S2) (x1 : Int32) (x2 : Int32) (x3 : Int32) (H : Heap) (locs : List Loc) (ls : Array Slot), fX11_act_0 τ σ x1 x2 x3 = some (r0, σ9) → va_P (dC, dI) vwCl (wG (cC cy ad τ) ad (182 + 6 * nb) σ) H → va_D A (wG (cC cy ad τ) ad (182 + 6 * nb) σ) → va_S A s.heap H locs → lv_has ls 4 [(0, .ref (ad 0)), (1, .int x1), (2, .int x2), (3, .int x3)] → W p l e (headSpec wsX11_act ({ frames := 103, cells := 0, slots := 0, locals := 2344 })).room s m (#[.ref (ad 0), .int a1, .int a2, .int a3]) below meth c H locs 0 0 (MQ below (va_Qi (fun (r : Int32) (_ : Unit) => r = r0) (fun (_ : Unit) t => wAt (dC, dI) A (wG (cC cy ad τ) ad (182 + 6 * nb) σ9) t) A) (#[.ref (ad 0), .int a1, .int a2, .int a3]) s 0 0 A) (F0 m 0 ls []) := by
    intro σ x1 x2 x3 H locs ls h hP hD hS hl
    unfold fX11_act_0 at h
    refine lv_aload_n hx hb dX11_act_0 rfl (lv_at hl 0 rfl) ?_
    refine ux_get (D := (dC, dI)) (ci := 11) (v := .ref (ad 35)) (C := RX11) (T := TX11) (M := 13) (fs := (oSR ad (σ.1 0))) hx hb hts (fun _ h9 => List.mem_cons_of_mem _ (List.mem_append_left _ (List.mem_append_left _ (List.mem_append_right _ h9)))) hown hK hP 0 (Nat.lt_of_lt_of_le (Nat.le_of_ble_eq_true rfl : 0 < 182) (Nat.le_add_right _ _)) (cC_0 _ _ _ _ _) rfl 11 (by decide) (hts (.fieldLink RX11 91 "SeatsRound" "acts" "LSeatsRound$Acts;") (List.mem_of_getElem? (i := 1) rfl)) (fun _ h9 => h9) rfl dX11_act_1 ?_
    refine lv_iconst (v := 0) hx hb dX11_act_4 (by decide) ?_
    refine ux_put (D := (dC, dI)) (ci := 0) (C := RX0) (T := TX0) (M := 5) (fs := (oAC ad (σ.1 35))) hx hb hts (fun _ h9 => List.mem_cons_of_mem _ (List.mem_append_left _ (List.mem_append_right _ h9))) tyX0 tyX0_ok nmX0 hown hK hP hD hS 35 (Nat.lt_of_lt_of_le (Nat.le_of_ble_eq_true rfl : 35 < 182) (Nat.le_add_right _ _)) (cC_35 _ _ _ _ _) rfl 1 (by decide) (hts (.fieldLink RX11 344 "SeatsRound$Acts" "ran" "I") (List.mem_of_getElem? (i := 2) rfl)) (fun _ h9 => h9) rfl (tyX0_ok 1 (by decide)) rfl rfl (Nat.le_of_ble_eq_true rfl) (oC_35_1 _ _ _ _ _ _) h dX11_act_5 (fun σ1 H locs h hP hD hS => ?_)
    refine lv_aload_n hx hb dX11_act_8 rfl (lv_at hl 0 rfl) ?_
    refine ux_get (D := (dC, dI)) (ci := 11) (v := .ref (ad 7)) (C := RX11) (T := TX11) (M := 13) (fs := (oSR ad (σ1.1 0))) hx hb hts (fun _ h9 => List.mem_cons_of_mem _ (List.mem_append_left _ (List.mem_append_left _ (List.mem_append_right _ h9)))) hown hK hP 0 (Nat.lt_of_lt_of_le (Nat.le_of_ble_eq_true rfl : 0 < 182) (Nat.le_add_right _ _)) (cC_0 _ _ _ _ _) rfl 2 (by decide) (hts (.fieldLink RX11 26 "SeatsRound" "keepers" "LSeatsRound$Keepers;") (List.mem_of_getElem? (i := 3) rfl)) (fun _ h9 => h9) rfl dX11_act_9 ?_
    refine lv_iload_n hx hb dX11_act_12 rfl (lv_at hl 1 rfl) ?_
    obtain ⟨r2, hf3, h⟩ := biS h
    refine ux_calli (va_runV (As := [.int x1]) (rest := []) ⟨hx, hb, hml, hown, hts⟩ (tX2_has l dC dI cy ad τ nb hτ σ1 x1 H.size r2 hf3) (cwV 1 hts gX11_act_X2_has rfl rfl rfl (by decide +kernel) ⟨Nat.le_of_ble_eq_true rfl, Nat.le_of_ble_eq_true rfl⟩) (wp_V hK hN hP hD (va_recv hK hP (ci := 2) (q0 := 7) rfl (wG_of (Nat.lt_of_lt_of_le (Nat.le_of_ble_eq_true rfl : 7 < 182) (Nat.le_add_right _ _)) (cC_7 _ _ _ _ _)))) rfl rfl hl.1 rfl (lv_room (Nat.le_of_ble_eq_true rfl)) dX11_act_13 ⟨Nat.le_of_ble_eq_true rfl, Nat.le_of_ble_eq_true rfl⟩) hD hS hA (fun H locs hP hD hS => ?_)
    refine lv_if_ne (tgt := 21) hx hb dX11_act_16 (by decide) (fun hcd => ?_) (fun hcd => ?_)
    · have h := cdN hcd h
      refine lv_aload_n hx hb dX11_act_21 rfl (lv_at hl 0 rfl) ?_
      refine ux_get (D := (dC, dI)) (ci := 11) (v := .ref (ad 35)) (C := RX11) (T := TX11) (M := 13) (fs := (oSR ad (σ1.1 0))) hx hb hts (fun _ h9 => List.mem_cons_of_mem _ (List.mem_append_left _ (List.mem_append_left _ (List.mem_append_right _ h9)))) hown hK hP 0 (Nat.lt_of_lt_of_le (Nat.le_of_ble_eq_true rfl : 0 < 182) (Nat.le_add_right _ _)) (cC_0 _ _ _ _ _) rfl 11 (by decide) (hts (.fieldLink RX11 91 "SeatsRound" "acts" "LSeatsRound$Acts;") (List.mem_of_getElem? (i := 1) rfl)) (fun _ h9 => h9) rfl dX11_act_22 ?_
      refine lv_iload_n hx hb dX11_act_25 rfl (lv_at hl 1 rfl) ?_
      refine lv_aload_n hx hb dX11_act_26 rfl (lv_at hl 0 rfl) ?_
      refine ux_get (D := (dC, dI)) (ci := 11) (v := .ref (ad 7)) (C := RX11) (T := TX11) (M := 13) (fs := (oSR ad (σ1.1 0))) hx hb hts (fun _ h9 => List.mem_cons_of_mem _ (List.mem_append_left _ (List.mem_append_left _ (List.mem_append_right _ h9)))) hown hK hP 0 (Nat.lt_of_lt_of_le (Nat.le_of_ble_eq_true rfl : 0 < 182) (Nat.le_add_right _ _)) (cC_0 _ _ _ _ _) rfl 2 (by decide) (hts (.fieldLink RX11 26 "SeatsRound" "keepers" "LSeatsRound$Keepers;") (List.mem_of_getElem? (i := 3) rfl)) (fun _ h9 => h9) rfl dX11_act_27 ?_
      refine ux_get (D := (dC, dI)) (ci := 2) (v := .ref (ad 10)) (C := RX2) (T := TX2) (M := 6) (fs := (oKP ad (σ1.1 7))) hx hb hts (fun _ h9 => List.mem_cons_of_mem _ (List.mem_append_right _ h9)) hown hK hP 7 (Nat.lt_of_lt_of_le (Nat.le_of_ble_eq_true rfl : 7 < 182) (Nat.le_add_right _ _)) (cC_7 _ _ _ _ _) rfl 2 (by decide) (hts (.fieldLink RX11 149 "SeatsRound$Keepers" "strength" "[I") (List.mem_of_getElem? (i := 4) rfl)) (fun _ h9 => h9) rfl dX11_act_30 ?_
      refine lv_iload_n hx hb dX11_act_33 rfl (lv_at hl 1 rfl) ?_
      refine ux_iald hx hb hK hP 10 0 (Nat.lt_of_lt_of_le (Nat.le_of_ble_eq_true rfl : 10 < 182) (Nat.le_add_right _ _)) (cC_10 _ _ _ _ _) rfl h dX11_act_34 (fun v4 h => ?_)
      change W _ _ _ _ _ _ _ _ _ _ _ _ _ _ _ (F0 m 35 ls [.int v4, .int x1, .ref (ad 35)])
      refine lv_aload_n hx hb dX11_act_35 rfl (lv_at hl 0 rfl) ?_
      refine ux_get (D := (dC, dI)) (ci := 11) (v := .ref (ad 7)) (C := RX11) (T := TX11) (M := 13) (fs := (oSR ad (σ1.1 0))) hx hb hts (fun _ h9 => List.mem_cons_of_mem _ (List.mem_append_left _ (List.mem_append_left _ (List.mem_append_right _ h9)))) hown hK hP 0 (Nat.lt_of_lt_of_le (Nat.le_of_ble_eq_true rfl : 0 < 182) (Nat.le_add_right _ _)) (cC_0 _ _ _ _ _) rfl 2 (by decide) (hts (.fieldLink RX11 26 "SeatsRound" "keepers" "LSeatsRound$Keepers;") (List.mem_of_getElem? (i := 3) rfl)) (fun _ h9 => h9) rfl dX11_act_36 ?_
      refine ux_get (D := (dC, dI)) (ci := 2) (v := .ref (ad 8)) (C := RX2) (T := TX2) (M := 6) (fs := (oKP ad (σ1.1 7))) hx hb hts (fun _ h9 => List.mem_cons_of_mem _ (List.mem_append_right _ h9)) hown hK hP 7 (Nat.lt_of_lt_of_le (Nat.le_of_ble_eq_true rfl : 7 < 182) (Nat.le_add_right _ _)) (cC_7 _ _ _ _ _) rfl 0 (by decide) (hts (.fieldLink RX11 141 "SeatsRound$Keepers" "kind" "[I") (List.mem_of_getElem? (i := 5) rfl)) (fun _ h9 => h9) rfl dX11_act_39 ?_
      refine lv_iload_n hx hb dX11_act_42 rfl (lv_at hl 1 rfl) ?_
      refine ux_iald hx hb hK hP 8 0 (Nat.lt_of_lt_of_le (Nat.le_of_ble_eq_true rfl : 8 < 182) (Nat.le_add_right _ _)) (cC_8 _ _ _ _ _) rfl h dX11_act_43 (fun v5 h => ?_)
      refine lv_iload_n hx hb dX11_act_44 rfl (lv_at hl 2 rfl) ?_
      refine lv_iload_n hx hb dX11_act_45 rfl (lv_at hl 3 rfl) ?_
      obtain ⟨r6, σ7, hf8, h⟩ := bsS h
      refine ux_calli (va_runV (As := [.int x1, .int v4, .int v5, .int x2, .int x3]) (rest := []) ⟨hx, hb, hml, hown, hts⟩ (tX0_run l dC dI cy ad τ nb hτ σ1 x1 v4 v5 x2 x3 H.size r6 σ7 hf8) (cwV 5 hts gX11_act_X0_run rfl rfl rfl (by decide +kernel) ⟨Nat.le_of_ble_eq_true rfl, Nat.le_of_ble_eq_true rfl⟩) (wp_V hK hN hP hD (va_recv hK hP (ci := 0) (q0 := 35) rfl (wG_of (Nat.lt_of_lt_of_le (Nat.le_of_ble_eq_true rfl : 35 < 182) (Nat.le_add_right _ _)) (cC_35 _ _ _ _ _)))) rfl rfl hl.1 rfl (lv_room (Nat.le_of_ble_eq_true rfl)) dX11_act_46 ⟨Nat.le_of_ble_eq_true rfl, Nat.le_of_ble_eq_true rfl⟩) hD hS hA (fun H locs hP hD hS => ?_)
      exact ux_iret hx hb hr h hP hD hS hlocks dX11_act_49
    · have h := cdP hcd h
      refine lv_iconst (v := 0) hx hb dX11_act_19 (by decide) ?_
      exact ux_iret hx hb hr h hP hD hS hlocks dX11_act_20
  intro H locs ls h hP hD hS hl
  exact w0 σ a1 a2 a3 H locs ls h hP hD hS (lv_sub hl [0, 1, 2, 3] rfl)

set_option maxHeartbeats 4000000 in
set_option maxRecDepth 100000 in
theorem tX11_trace (l : Launch) (dC : Nat → ClassId) (dI : Nat → Nat → Nat) (cy : Nat → ClassId) (ad : Nat → Nat) (τ nb : Nat) (hτ : τ < nb) (σ : S2) (a1 : Int32) (sz : Nat) (r0 : Int32) (h : fX11_trace τ σ a1 = some r0) : Met l yX11_trace wsX11_trace ({ frames := 1, cells := 0, slots := 0, locals := 23 }) (va_Pc [.ref (ad 0), .int a1] (wPre (dC, dI) cy (wG (cC cy ad τ) ad (182 + 6 * nb) σ) sz)) (va_Qi (fun (r : Int32) (_ : Unit) => r = r0) (fun (_ : Unit) t => wAt (dC, dI) (va_A (wG (cC cy ad τ) ad (182 + 6 * nb) σ) sz) (wG (cC cy ad τ) ad (182 + 6 * nb) σ) t) (va_A (wG (cC cy ad τ) ad (182 + 6 * nb) σ) sz)) 0 0 (va_A (wG (cC cy ad τ) ad (182 + 6 * nb) σ) sz) := by
  refine Met.ofW (cc := cX11_trace) (maxL := 2) (ret := (some .int)) (by decide) rfl ?_
  intro p e s m args below meth c s₁ B hml hv
  obtain ⟨rfl, hsz, hP, hK, hD0, hN⟩ := hv
  have hx := B.exec
  have hb := B.bytes
  have hr := B.returns
  have hts := atoms_spec (ws := wsX11_trace) B.pre
  have hown : s.vm.findClass RX11 = some m.cls := findClass_of_methodNamed B.named
  have hlocks := B.notSynchronized
  subst hsz
  have hD := hD0.self (sz := s.heap.size)
  generalize hAe : va_A (wG (cC cy ad τ) ad (182 + 6 * nb) σ) s.heap.size = A at hD ⊢
  have hA : ∀ q : Nat, s.heap.size ≤ q → A q := fun q h => by rw [← hAe]; exact Or.inr h
  have hS : va_S A s.heap s.heap [] := va_S.rf
  have hl := lv_entry ([.ref (ad 0), .int a1]) (n := 2) (Nat.le_of_ble_eq_true rfl)
  rw [lg_entry_eq]
  generalize (lg_sl ([.ref (ad 0), .int a1]) ++ List.replicate (2 - (lg_sl ([.ref (ad 0), .int a1])).length) Slot.unset).toArray = ls at hl ⊢
  have hl : lv_has ls 2 [(0, .ref (ad 0)), (1, .int a1)] := hl
  unfold fX11_trace at h
  clear hAe hD0
  suffices HH : ∀ (H : Heap) (locs : List Loc) (ls : Array Slot), fX11_trace_0 τ σ a1 = some r0 → va_P (dC, dI) vwCl (wG (cC cy ad τ) ad (182 + 6 * nb) σ) H → va_D A (wG (cC cy ad τ) ad (182 + 6 * nb) σ) → va_S A s.heap H locs → lv_has ls 2 [(0, .ref (ad 0)), (1, .int a1)] → W p l e (headSpec wsX11_trace ({ frames := 1, cells := 0, slots := 0, locals := 23 })).room s m (#[.ref (ad 0), .int a1]) below meth c H locs 0 0 (MQ below (va_Qi (fun (r : Int32) (_ : Unit) => r = r0) (fun (_ : Unit) t => wAt (dC, dI) A (wG (cC cy ad τ) ad (182 + 6 * nb) σ) t) A) (#[.ref (ad 0), .int a1]) s 0 0 A) (F0 m 0 ls []) from HH s.heap [] ls h hP hD hS hl
  have w0 : ∀ (σ : S2) (x1 : Int32) (H : Heap) (locs : List Loc) (ls : Array Slot), fX11_trace_0 τ σ x1 = some r0 → va_P (dC, dI) vwCl (wG (cC cy ad τ) ad (182 + 6 * nb) σ) H → va_D A (wG (cC cy ad τ) ad (182 + 6 * nb) σ) → va_S A s.heap H locs → lv_has ls 2 [(0, .ref (ad 0)), (1, .int x1)] → W p l e (headSpec wsX11_trace ({ frames := 1, cells := 0, slots := 0, locals := 23 })).room s m (#[.ref (ad 0), .int a1]) below meth c H locs 0 0 (MQ below (va_Qi (fun (r : Int32) (_ : Unit) => r = r0) (fun (_ : Unit) t => wAt (dC, dI) A (wG (cC cy ad τ) ad (182 + 6 * nb) σ) t) A) (#[.ref (ad 0), .int a1]) s 0 0 A) (F0 m 0 ls []) := by
    intro σ x1 H locs ls h hP hD hS hl
    unfold fX11_trace_0 at h
    refine lv_iload_n hx hb dX11_trace_0 rfl (lv_at hl 1 rfl) ?_
    refine lv_if_lt (tgt := 33) hx hb dX11_trace_1 (by decide) (fun hcd => ?_) (fun hcd => ?_)
    · have h := cdP hcd h
      refine lv_iconst (v := (-1)) hx hb dX11_trace_33 (by decide) ?_
      exact ux_iretP hx hb hr h hP hD hS hlocks dX11_trace_34
    · have h := cdN hcd h
      refine lv_iload_n hx hb dX11_trace_4 rfl (lv_at hl 1 rfl) ?_
      refine lv_aload_n hx hb dX11_trace_5 rfl (lv_at hl 0 rfl) ?_
      refine ux_get (D := (dC, dI)) (ci := 11) (v := .ref (ad 35)) (C := RX11) (T := TX11) (M := 13) (fs := (oSR ad (σ.1 0))) hx hb hts (fun _ h9 => List.mem_cons_of_mem _ (List.mem_append_left _ (List.mem_append_right _ h9))) hown hK hP 0 (Nat.lt_of_lt_of_le (Nat.le_of_ble_eq_true rfl : 0 < 182) (Nat.le_add_right _ _)) (cC_0 _ _ _ _ _) rfl 11 (by decide) (hts (.fieldLink RX11 91 "SeatsRound" "acts" "LSeatsRound$Acts;") (List.mem_of_getElem? (i := 1) rfl)) (fun _ h9 => h9) rfl dX11_trace_6 ?_
      refine ux_get (D := (dC, dI)) (ci := 0) (v := .int (σ.1 35 1)) (C := RX0) (T := TX0) (M := 5) (fs := (oAC ad (σ.1 35))) hx hb hts (fun _ h9 => List.mem_cons_of_mem _ (List.mem_append_right _ h9)) hown hK hP 35 (Nat.lt_of_lt_of_le (Nat.le_of_ble_eq_true rfl : 35 < 182) (Nat.le_add_right _ _)) (cC_35 _ _ _ _ _) rfl 1 (by decide) (hts (.fieldLink RX11 344 "SeatsRound$Acts" "ran" "I") (List.mem_of_getElem? (i := 2) rfl)) (fun _ h9 => h9) rfl dX11_trace_9 ?_
      refine lv_icmp_ge (tgt := 33) hx hb dX11_trace_12 (by decide) (fun hcd => ?_) (fun hcd => ?_)
      · have h := cdP hcd h
        refine lv_iconst (v := (-1)) hx hb dX11_trace_33 (by decide) ?_
        exact ux_iretP hx hb hr h hP hD hS hlocks dX11_trace_34
      · have h := cdN hcd h
        refine lv_iload_n hx hb dX11_trace_15 rfl (lv_at hl 1 rfl) ?_
        refine lv_bipush (v := 24) hx hb dX11_trace_16 (by decide) ?_
        refine lv_icmp_ge (tgt := 33) hx hb dX11_trace_18 (by decide) (fun hcd => ?_) (fun hcd => ?_)
        · have h := cdP hcd h
          refine lv_iconst (v := (-1)) hx hb dX11_trace_33 (by decide) ?_
          exact ux_iretP hx hb hr h hP hD hS hlocks dX11_trace_34
        · have h := cdN hcd h
          refine lv_aload_n hx hb dX11_trace_21 rfl (lv_at hl 0 rfl) ?_
          refine ux_get (D := (dC, dI)) (ci := 11) (v := .ref (ad 35)) (C := RX11) (T := TX11) (M := 13) (fs := (oSR ad (σ.1 0))) hx hb hts (fun _ h9 => List.mem_cons_of_mem _ (List.mem_append_left _ (List.mem_append_right _ h9))) hown hK hP 0 (Nat.lt_of_lt_of_le (Nat.le_of_ble_eq_true rfl : 0 < 182) (Nat.le_add_right _ _)) (cC_0 _ _ _ _ _) rfl 11 (by decide) (hts (.fieldLink RX11 91 "SeatsRound" "acts" "LSeatsRound$Acts;") (List.mem_of_getElem? (i := 1) rfl)) (fun _ h9 => h9) rfl dX11_trace_22 ?_
          refine ux_get (D := (dC, dI)) (ci := 0) (v := .ref (ad 36)) (C := RX0) (T := TX0) (M := 5) (fs := (oAC ad (σ.1 35))) hx hb hts (fun _ h9 => List.mem_cons_of_mem _ (List.mem_append_right _ h9)) hown hK hP 35 (Nat.lt_of_lt_of_le (Nat.le_of_ble_eq_true rfl : 35 < 182) (Nat.le_add_right _ _)) (cC_35 _ _ _ _ _) rfl 0 (by decide) (hts (.fieldLink RX11 351 "SeatsRound$Acts" "bodies" "[I") (List.mem_of_getElem? (i := 3) rfl)) (fun _ h9 => h9) rfl dX11_trace_25 ?_
          refine lv_iload_n hx hb dX11_trace_28 rfl (lv_at hl 1 rfl) ?_
          refine ux_iald hx hb hK hP 36 0 (Nat.lt_of_lt_of_le (Nat.le_of_ble_eq_true rfl : 36 < 182) (Nat.le_add_right _ _)) (cC_36 _ _ _ _ _) rfl h dX11_trace_29 (fun v1 h => ?_)
          refine lv_goto (tgt := 34) hx hb dX11_trace_30 (by decide) ?_
          exact ux_iretP hx hb hr h hP hD hS hlocks dX11_trace_34
  intro H locs ls h hP hD hS hl
  exact w0 σ a1 H locs ls h hP hD hS (lv_sub hl [0, 1] rfl)

set_option maxHeartbeats 4000000 in
set_option maxRecDepth 100000 in
theorem tX11_isShelf (l : Launch) (dC : Nat → ClassId) (dI : Nat → Nat → Nat) (cy : Nat → ClassId) (ad : Nat → Nat) (τ nb : Nat) (hτ : τ < nb) (σ : S2) (a0 : Int32) (sz : Nat) (r0 : Int32) (h : fX11_isShelf τ σ a0 = some r0) : Met l yX11_isShelf wsX11_isShelf ({ frames := 1, cells := 0, slots := 0, locals := 23 }) (va_Pc [.int a0] (wPre (dC, dI) cy (wG (cC cy ad τ) ad (182 + 6 * nb) σ) sz)) (va_Qi (fun (r : Int32) (_ : Unit) => r = r0) (fun (_ : Unit) t => wAt (dC, dI) (va_A (wG (cC cy ad τ) ad (182 + 6 * nb) σ) sz) (wG (cC cy ad τ) ad (182 + 6 * nb) σ) t) (va_A (wG (cC cy ad τ) ad (182 + 6 * nb) σ) sz)) 0 0 (va_A (wG (cC cy ad τ) ad (182 + 6 * nb) σ) sz) := by
  refine Met.ofW (cc := cX11_isShelf) (maxL := 1) (ret := (some .boolean)) (by decide) rfl ?_
  intro p e s m args below meth c s₁ B hml hv
  obtain ⟨rfl, hsz, hP, hK, hD0, hN⟩ := hv
  have hx := B.exec
  have hb := B.bytes
  have hr := B.returns
  have hts := atoms_spec (ws := wsX11_isShelf) B.pre
  have hown : s.vm.findClass RX11 = some m.cls := findClass_of_methodNamed B.named
  have hlocks := B.notSynchronized
  subst hsz
  have hD := hD0.self (sz := s.heap.size)
  generalize hAe : va_A (wG (cC cy ad τ) ad (182 + 6 * nb) σ) s.heap.size = A at hD ⊢
  have hA : ∀ q : Nat, s.heap.size ≤ q → A q := fun q h => by rw [← hAe]; exact Or.inr h
  have hS : va_S A s.heap s.heap [] := va_S.rf
  have hl := lv_entry ([.int a0]) (n := 1) (Nat.le_of_ble_eq_true rfl)
  rw [lg_entry_eq]
  generalize (lg_sl ([.int a0]) ++ List.replicate (1 - (lg_sl ([.int a0])).length) Slot.unset).toArray = ls at hl ⊢
  have hl : lv_has ls 1 [(0, .int a0)] := hl
  unfold fX11_isShelf at h
  clear hAe hD0
  suffices HH : ∀ (H : Heap) (locs : List Loc) (ls : Array Slot), fX11_isShelf_0 τ σ a0 = some r0 → va_P (dC, dI) vwCl (wG (cC cy ad τ) ad (182 + 6 * nb) σ) H → va_D A (wG (cC cy ad τ) ad (182 + 6 * nb) σ) → va_S A s.heap H locs → lv_has ls 1 [(0, .int a0)] → W p l e (headSpec wsX11_isShelf ({ frames := 1, cells := 0, slots := 0, locals := 23 })).room s m (#[.int a0]) below meth c H locs 0 0 (MQ below (va_Qi (fun (r : Int32) (_ : Unit) => r = r0) (fun (_ : Unit) t => wAt (dC, dI) A (wG (cC cy ad τ) ad (182 + 6 * nb) σ) t) A) (#[.int a0]) s 0 0 A) (F0 m 0 ls []) from HH s.heap [] ls h hP hD hS hl
  have w0 : ∀ (σ : S2) (x0 : Int32) (H : Heap) (locs : List Loc) (ls : Array Slot), fX11_isShelf_0 τ σ x0 = some r0 → va_P (dC, dI) vwCl (wG (cC cy ad τ) ad (182 + 6 * nb) σ) H → va_D A (wG (cC cy ad τ) ad (182 + 6 * nb) σ) → va_S A s.heap H locs → lv_has ls 1 [(0, .int x0)] → W p l e (headSpec wsX11_isShelf ({ frames := 1, cells := 0, slots := 0, locals := 23 })).room s m (#[.int a0]) below meth c H locs 0 0 (MQ below (va_Qi (fun (r : Int32) (_ : Unit) => r = r0) (fun (_ : Unit) t => wAt (dC, dI) A (wG (cC cy ad τ) ad (182 + 6 * nb) σ) t) A) (#[.int a0]) s 0 0 A) (F0 m 0 ls []) := by
    intro σ x0 H locs ls h hP hD hS hl
    unfold fX11_isShelf_0 at h
    refine lv_iload_n hx hb dX11_isShelf_0 rfl (lv_at hl 0 rfl) ?_
    refine lv_if_lt (tgt := 14) hx hb dX11_isShelf_1 (by decide) (fun hcd => ?_) (fun hcd => ?_)
    · have h := cdP hcd h
      refine lv_iconst (v := 0) hx hb dX11_isShelf_14 (by decide) ?_
      exact ux_zretP hx hb hr rfl h hP hD hS hlocks dX11_isShelf_15
    · have h := cdN hcd h
      refine lv_iload_n hx hb dX11_isShelf_4 rfl (lv_at hl 0 rfl) ?_
      refine lv_bipush (v := 6) hx hb dX11_isShelf_5 (by decide) ?_
      refine lv_icmp_ge (tgt := 14) hx hb dX11_isShelf_7 (by decide) (fun hcd => ?_) (fun hcd => ?_)
      · have h := cdP hcd h
        refine lv_iconst (v := 0) hx hb dX11_isShelf_14 (by decide) ?_
        exact ux_zretP hx hb hr rfl h hP hD hS hlocks dX11_isShelf_15
      · have h := cdN hcd h
        refine lv_iconst (v := 1) hx hb dX11_isShelf_10 (by decide) ?_
        refine lv_goto (tgt := 15) hx hb dX11_isShelf_11 (by decide) ?_
        exact ux_zretP hx hb hr rfl h hP hD hS hlocks dX11_isShelf_15
  intro H locs ls h hP hD hS hl
  exact w0 σ a0 H locs ls h hP hD hS (lv_sub hl [0] rfl)

set_option maxHeartbeats 4000000 in
set_option maxRecDepth 100000 in
theorem tX11_keep (l : Launch) (dC : Nat → ClassId) (dI : Nat → Nat → Nat) (cy : Nat → ClassId) (ad : Nat → Nat) (τ nb : Nat) (hτ : τ < nb) (σ : S2) (a1 : Int32) (a2 : Int32) (sz : Nat) (r0 : Int32) (σ9 : S2) (h : fX11_keep τ σ a1 a2 = some (r0, σ9)) : Met l yX11_keep wsX11_keep ({ frames := 2, cells := 0, slots := 0, locals := 45 }) (va_Pc [.ref (ad 0), .int a1, .int a2] (wPre (dC, dI) cy (wG (cC cy ad τ) ad (182 + 6 * nb) σ) sz)) (va_Qi (fun (r : Int32) (_ : Unit) => r = r0) (fun (_ : Unit) t => wAt (dC, dI) (va_A (wG (cC cy ad τ) ad (182 + 6 * nb) σ) sz) (wG (cC cy ad τ) ad (182 + 6 * nb) σ9) t) (va_A (wG (cC cy ad τ) ad (182 + 6 * nb) σ) sz)) 0 0 (va_A (wG (cC cy ad τ) ad (182 + 6 * nb) σ) sz) := by
  refine Met.ofW (cc := cX11_keep) (maxL := 3) (ret := (some .int)) (by decide) rfl ?_
  intro p e s m args below meth c s₁ B hml hv
  obtain ⟨rfl, hsz, hP, hK, hD0, hN⟩ := hv
  have hx := B.exec
  have hb := B.bytes
  have hr := B.returns
  have hts := atoms_spec (ws := wsX11_keep) B.pre
  have hown : s.vm.findClass RX11 = some m.cls := findClass_of_methodNamed B.named
  have hlocks := B.notSynchronized
  subst hsz
  have hD := hD0.self (sz := s.heap.size)
  generalize hAe : va_A (wG (cC cy ad τ) ad (182 + 6 * nb) σ) s.heap.size = A at hD ⊢
  have hA : ∀ q : Nat, s.heap.size ≤ q → A q := fun q h => by rw [← hAe]; exact Or.inr h
  have hS : va_S A s.heap s.heap [] := va_S.rf
  have hl := lv_entry ([.ref (ad 0), .int a1, .int a2]) (n := 3) (Nat.le_of_ble_eq_true rfl)
  rw [lg_entry_eq]
  generalize (lg_sl ([.ref (ad 0), .int a1, .int a2]) ++ List.replicate (3 - (lg_sl ([.ref (ad 0), .int a1, .int a2])).length) Slot.unset).toArray = ls at hl ⊢
  have hl : lv_has ls 3 [(0, .ref (ad 0)), (1, .int a1), (2, .int a2)] := hl
  unfold fX11_keep at h
  clear hAe hD0
  suffices HH : ∀ (H : Heap) (locs : List Loc) (ls : Array Slot), fX11_keep_0 τ σ a1 a2 = some (r0, σ9) → va_P (dC, dI) vwCl (wG (cC cy ad τ) ad (182 + 6 * nb) σ) H → va_D A (wG (cC cy ad τ) ad (182 + 6 * nb) σ) → va_S A s.heap H locs → lv_has ls 3 [(0, .ref (ad 0)), (1, .int a1), (2, .int a2)] → W p l e (headSpec wsX11_keep ({ frames := 2, cells := 0, slots := 0, locals := 45 })).room s m (#[.ref (ad 0), .int a1, .int a2]) below meth c H locs 0 0 (MQ below (va_Qi (fun (r : Int32) (_ : Unit) => r = r0) (fun (_ : Unit) t => wAt (dC, dI) A (wG (cC cy ad τ) ad (182 + 6 * nb) σ9) t) A) (#[.ref (ad 0), .int a1, .int a2]) s 0 0 A) (F0 m 0 ls []) from HH s.heap [] ls h hP hD hS hl
  have w25 : ∀ (σ : S2) (x1 : Int32) (x2 : Int32) (H : Heap) (locs : List Loc) (ls : Array Slot), fX11_keep_25 τ σ x1 x2 = some (r0, σ9) → va_P (dC, dI) vwCl (wG (cC cy ad τ) ad (182 + 6 * nb) σ) H → va_D A (wG (cC cy ad τ) ad (182 + 6 * nb) σ) → va_S A s.heap H locs → lv_has ls 3 [(0, .ref (ad 0)), (1, .int x1), (2, .int x2)] → W p l e (headSpec wsX11_keep ({ frames := 2, cells := 0, slots := 0, locals := 45 })).room s m (#[.ref (ad 0), .int a1, .int a2]) below meth c H locs 0 0 (MQ below (va_Qi (fun (r : Int32) (_ : Unit) => r = r0) (fun (_ : Unit) t => wAt (dC, dI) A (wG (cC cy ad τ) ad (182 + 6 * nb) σ9) t) A) (#[.ref (ad 0), .int a1, .int a2]) s 0 0 A) (F0 m 25 ls []) := by
    intro σ x1 x2 H locs ls h hP hD hS hl
    unfold fX11_keep_25 at h
    refine lv_aload_n hx hb dX11_keep_25 rfl (lv_at hl 0 rfl) ?_
    refine ux_get (D := (dC, dI)) (ci := 11) (v := .ref (ad 37)) (C := RX11) (T := TX11) (M := 13) (fs := (oSR ad (σ.1 0))) hx hb hts (fun _ h9 => List.mem_cons_of_mem _ (List.mem_append_left _ (List.mem_append_left _ (List.mem_append_right _ h9)))) hown hK hP 0 (Nat.lt_of_lt_of_le (Nat.le_of_ble_eq_true rfl : 0 < 182) (Nat.le_add_right _ _)) (cC_0 _ _ _ _ _) rfl 12 (by decide) (hts (.fieldLink RX11 98 "SeatsRound" "rows" "LSeatsRound$Rows;") (List.mem_of_getElem? (i := 2) rfl)) (fun _ h9 => h9) rfl dX11_keep_26 ?_
    refine lv_iload_n hx hb dX11_keep_29 rfl (lv_at hl 1 rfl) ?_
    refine lv_iload_n hx hb dX11_keep_30 rfl (lv_at hl 2 rfl) ?_
    obtain ⟨r1, σ2, hf3, h⟩ := bsS h
    refine ux_callv (va_runV (As := [.int x1, .int x2]) (rest := []) ⟨hx, hb, hml, hown, hts⟩ (tX7_holdKeeper l dC dI cy ad τ nb hτ σ x1 x2 H.size r1 σ2 hf3) (cwV 2 hts gX11_keep_X7_holdKeeper rfl rfl rfl (by decide +kernel) ⟨Nat.le_of_ble_eq_true rfl, Nat.le_of_ble_eq_true rfl⟩) (wp_V hK hN hP hD (va_recv hK hP (ci := 7) (q0 := 37) rfl (wG_of (Nat.lt_of_lt_of_le (Nat.le_of_ble_eq_true rfl : 37 < 182) (Nat.le_add_right _ _)) (cC_37 _ _ _ _ _)))) rfl rfl hl.1 rfl (lv_room (Nat.le_of_ble_eq_true rfl)) dX11_keep_31 ⟨Nat.le_of_ble_eq_true rfl, Nat.le_of_ble_eq_true rfl⟩) hD hS hA (fun H locs hP hD hS => ?_)
    refine lv_iconst (v := 1) hx hb dX11_keep_34 (by decide) ?_
    exact ux_iret hx hb hr h hP hD hS hlocks dX11_keep_35
  have w0 : ∀ (σ : S2) (x1 : Int32) (x2 : Int32) (H : Heap) (locs : List Loc) (ls : Array Slot), fX11_keep_0 τ σ x1 x2 = some (r0, σ9) → va_P (dC, dI) vwCl (wG (cC cy ad τ) ad (182 + 6 * nb) σ) H → va_D A (wG (cC cy ad τ) ad (182 + 6 * nb) σ) → va_S A s.heap H locs → lv_has ls 3 [(0, .ref (ad 0)), (1, .int x1), (2, .int x2)] → W p l e (headSpec wsX11_keep ({ frames := 2, cells := 0, slots := 0, locals := 45 })).room s m (#[.ref (ad 0), .int a1, .int a2]) below meth c H locs 0 0 (MQ below (va_Qi (fun (r : Int32) (_ : Unit) => r = r0) (fun (_ : Unit) t => wAt (dC, dI) A (wG (cC cy ad τ) ad (182 + 6 * nb) σ9) t) A) (#[.ref (ad 0), .int a1, .int a2]) s 0 0 A) (F0 m 0 ls []) := by
    intro σ x1 x2 H locs ls h hP hD hS hl
    unfold fX11_keep_0 at h
    refine lv_iload_n hx hb dX11_keep_0 rfl (lv_at hl 1 rfl) ?_
    obtain ⟨r4, hf5, h⟩ := biS h
    refine ux_calli (va_runS (As := [.int x1]) (rest := []) ⟨hx, hb, hml, hown, hts⟩ (tX11_isShelf l dC dI cy ad τ nb hτ σ x1 H.size r4 hf5) (va_cwS 1 hts gX11_keep_X11_isShelf rfl rfl rfl (by decide +kernel) ⟨Nat.le_of_ble_eq_true rfl, Nat.le_of_ble_eq_true rfl⟩) (wp_S hK hN hP hD) rfl rfl hl.1 rfl (lv_room (Nat.le_of_ble_eq_true rfl)) dX11_keep_1 ⟨Nat.le_of_ble_eq_true rfl, Nat.le_of_ble_eq_true rfl⟩) hD hS hA (fun H locs hP hD hS => ?_)
    refine lv_if_eq (tgt := 23) hx hb dX11_keep_4 (by decide) (fun hcd => ?_) (fun hcd => ?_)
    · have h := cdP hcd h
      refine lv_iconst (v := (-1)) hx hb dX11_keep_23 (by decide) ?_
      exact ux_iret hx hb hr h hP hD hS hlocks dX11_keep_24
    · have h := cdN hcd h
      refine lv_iload_n hx hb dX11_keep_7 rfl (lv_at hl 2 rfl) ?_
      refine lv_iconst (v := (-1)) hx hb dX11_keep_8 (by decide) ?_
      refine lv_icmp_eq (tgt := 25) hx hb dX11_keep_9 (by decide) (fun hcd => ?_) (fun hcd => ?_)
      · have h := cdP hcd h
        exact w25 σ x1 x2 H locs ls h hP hD hS hl
      · have h := cdN hcd h
        refine lv_aload_n hx hb dX11_keep_12 rfl (lv_at hl 0 rfl) ?_
        refine ux_get (D := (dC, dI)) (ci := 11) (v := .ref (ad 7)) (C := RX11) (T := TX11) (M := 13) (fs := (oSR ad (σ.1 0))) hx hb hts (fun _ h9 => List.mem_cons_of_mem _ (List.mem_append_left _ (List.mem_append_left _ (List.mem_append_right _ h9)))) hown hK hP 0 (Nat.lt_of_lt_of_le (Nat.le_of_ble_eq_true rfl : 0 < 182) (Nat.le_add_right _ _)) (cC_0 _ _ _ _ _) rfl 2 (by decide) (hts (.fieldLink RX11 26 "SeatsRound" "keepers" "LSeatsRound$Keepers;") (List.mem_of_getElem? (i := 1) rfl)) (fun _ h9 => h9) rfl dX11_keep_13 ?_
        refine lv_iload_n hx hb dX11_keep_16 rfl (lv_at hl 2 rfl) ?_
        obtain ⟨r6, hf7, h⟩ := biS h
        refine ux_calli (va_runV (As := [.int x2]) (rest := []) ⟨hx, hb, hml, hown, hts⟩ (tX2_has l dC dI cy ad τ nb hτ σ x2 H.size r6 hf7) (cwV 1 hts gX11_keep_X2_has rfl rfl rfl (by decide +kernel) ⟨Nat.le_of_ble_eq_true rfl, Nat.le_of_ble_eq_true rfl⟩) (wp_V hK hN hP hD (va_recv hK hP (ci := 2) (q0 := 7) rfl (wG_of (Nat.lt_of_lt_of_le (Nat.le_of_ble_eq_true rfl : 7 < 182) (Nat.le_add_right _ _)) (cC_7 _ _ _ _ _)))) rfl rfl hl.1 rfl (lv_room (Nat.le_of_ble_eq_true rfl)) dX11_keep_17 ⟨Nat.le_of_ble_eq_true rfl, Nat.le_of_ble_eq_true rfl⟩) hD hS hA (fun H locs hP hD hS => ?_)
        refine lv_if_ne (tgt := 25) hx hb dX11_keep_20 (by decide) (fun hcd => ?_) (fun hcd => ?_)
        · have h := cdN hcd h
          exact w25 σ x1 x2 H locs ls h hP hD hS hl
        · have h := cdP hcd h
          refine lv_iconst (v := (-1)) hx hb dX11_keep_23 (by decide) ?_
          exact ux_iret hx hb hr h hP hD hS hlocks dX11_keep_24
  intro H locs ls h hP hD hS hl
  exact w0 σ a1 a2 H locs ls h hP hD hS (lv_sub hl [0, 1, 2] rfl)

set_option maxHeartbeats 4000000 in
set_option maxRecDepth 100000 in
theorem tX11_row (l : Launch) (dC : Nat → ClassId) (dI : Nat → Nat → Nat) (cy : Nat → ClassId) (ad : Nat → Nat) (τ nb : Nat) (hτ : τ < nb) (σ : S2) (a1 : Int32) (a2 : Int32) (a3 : Int32) (sz : Nat) (r0 : Int32) (σ9 : S2) (h : fX11_row τ σ a1 a2 a3 = some (r0, σ9)) : Met l yX11_row wsX11_row ({ frames := 3, cells := 0, slots := 0, locals := 70 }) (va_Pc [.ref (ad 0), .int a1, .int a2, .int a3] (wPre (dC, dI) cy (wG (cC cy ad τ) ad (182 + 6 * nb) σ) sz)) (va_Qi (fun (r : Int32) (_ : Unit) => r = r0) (fun (_ : Unit) t => wAt (dC, dI) (va_A (wG (cC cy ad τ) ad (182 + 6 * nb) σ) sz) (wG (cC cy ad τ) ad (182 + 6 * nb) σ9) t) (va_A (wG (cC cy ad τ) ad (182 + 6 * nb) σ) sz)) 0 0 (va_A (wG (cC cy ad τ) ad (182 + 6 * nb) σ) sz) := by
  refine Met.ofW (cc := cX11_row) (maxL := 4) (ret := (some .int)) (by decide) rfl ?_
  intro p e s m args below meth c s₁ B hml hv
  obtain ⟨rfl, hsz, hP, hK, hD0, hN⟩ := hv
  have hx := B.exec
  have hb := B.bytes
  have hr := B.returns
  have hts := atoms_spec (ws := wsX11_row) B.pre
  have hown : s.vm.findClass RX11 = some m.cls := findClass_of_methodNamed B.named
  have hlocks := B.notSynchronized
  subst hsz
  have hD := hD0.self (sz := s.heap.size)
  generalize hAe : va_A (wG (cC cy ad τ) ad (182 + 6 * nb) σ) s.heap.size = A at hD ⊢
  have hA : ∀ q : Nat, s.heap.size ≤ q → A q := fun q h => by rw [← hAe]; exact Or.inr h
  have hS : va_S A s.heap s.heap [] := va_S.rf
  have hl := lv_entry ([.ref (ad 0), .int a1, .int a2, .int a3]) (n := 4) (Nat.le_of_ble_eq_true rfl)
  rw [lg_entry_eq]
  generalize (lg_sl ([.ref (ad 0), .int a1, .int a2, .int a3]) ++ List.replicate (4 - (lg_sl ([.ref (ad 0), .int a1, .int a2, .int a3])).length) Slot.unset).toArray = ls at hl ⊢
  have hl : lv_has ls 4 [(0, .ref (ad 0)), (1, .int a1), (2, .int a2), (3, .int a3)] := hl
  unfold fX11_row at h
  clear hAe hD0
  suffices HH : ∀ (H : Heap) (locs : List Loc) (ls : Array Slot), fX11_row_0 τ σ a1 a2 a3 = some (r0, σ9) → va_P (dC, dI) vwCl (wG (cC cy ad τ) ad (182 + 6 * nb) σ) H → va_D A (wG (cC cy ad τ) ad (182 + 6 * nb) σ) → va_S A s.heap H locs → lv_has ls 4 [(0, .ref (ad 0)), (1, .int a1), (2, .int a2), (3, .int a3)] → W p l e (headSpec wsX11_row ({ frames := 3, cells := 0, slots := 0, locals := 70 })).room s m (#[.ref (ad 0), .int a1, .int a2, .int a3]) below meth c H locs 0 0 (MQ below (va_Qi (fun (r : Int32) (_ : Unit) => r = r0) (fun (_ : Unit) t => wAt (dC, dI) A (wG (cC cy ad τ) ad (182 + 6 * nb) σ9) t) A) (#[.ref (ad 0), .int a1, .int a2, .int a3]) s 0 0 A) (F0 m 0 ls []) from HH s.heap [] ls h hP hD hS hl
  have w0 : ∀ (σ : S2) (x1 : Int32) (x2 : Int32) (x3 : Int32) (H : Heap) (locs : List Loc) (ls : Array Slot), fX11_row_0 τ σ x1 x2 x3 = some (r0, σ9) → va_P (dC, dI) vwCl (wG (cC cy ad τ) ad (182 + 6 * nb) σ) H → va_D A (wG (cC cy ad τ) ad (182 + 6 * nb) σ) → va_S A s.heap H locs → lv_has ls 4 [(0, .ref (ad 0)), (1, .int x1), (2, .int x2), (3, .int x3)] → W p l e (headSpec wsX11_row ({ frames := 3, cells := 0, slots := 0, locals := 70 })).room s m (#[.ref (ad 0), .int a1, .int a2, .int a3]) below meth c H locs 0 0 (MQ below (va_Qi (fun (r : Int32) (_ : Unit) => r = r0) (fun (_ : Unit) t => wAt (dC, dI) A (wG (cC cy ad τ) ad (182 + 6 * nb) σ9) t) A) (#[.ref (ad 0), .int a1, .int a2, .int a3]) s 0 0 A) (F0 m 0 ls []) := by
    intro σ x1 x2 x3 H locs ls h hP hD hS hl
    unfold fX11_row_0 at h
    refine lv_iload_n hx hb dX11_row_0 rfl (lv_at hl 1 rfl) ?_
    obtain ⟨r1, hf2, h⟩ := biS h
    refine ux_calli (va_runS (As := [.int x1]) (rest := []) ⟨hx, hb, hml, hown, hts⟩ (tX11_isShelf l dC dI cy ad τ nb hτ σ x1 H.size r1 hf2) (va_cwS 1 hts gX11_row_X11_isShelf rfl rfl rfl (by decide +kernel) ⟨Nat.le_of_ble_eq_true rfl, Nat.le_of_ble_eq_true rfl⟩) (wp_S hK hN hP hD) rfl rfl hl.1 rfl (lv_room (Nat.le_of_ble_eq_true rfl)) dX11_row_1 ⟨Nat.le_of_ble_eq_true rfl, Nat.le_of_ble_eq_true rfl⟩) hD hS hA (fun H locs hP hD hS => ?_)
    refine lv_if_eq (tgt := 22) hx hb dX11_row_4 (by decide) (fun hcd => ?_) (fun hcd => ?_)
    · have h := cdP hcd h
      refine lv_iconst (v := (-1)) hx hb dX11_row_22 (by decide) ?_
      exact ux_iret hx hb hr h hP hD hS hlocks dX11_row_23
    · have h := cdN hcd h
      refine lv_iload_n hx hb dX11_row_7 rfl (lv_at hl 2 rfl) ?_
      refine lv_if_lt (tgt := 22) hx hb dX11_row_8 (by decide) (fun hcd => ?_) (fun hcd => ?_)
      · have h := cdP hcd h
        refine lv_iconst (v := (-1)) hx hb dX11_row_22 (by decide) ?_
        exact ux_iret hx hb hr h hP hD hS hlocks dX11_row_23
      · have h := cdN hcd h
        refine lv_iload_n hx hb dX11_row_11 rfl (lv_at hl 2 rfl) ?_
        refine lv_iconst (v := 4) hx hb dX11_row_12 (by decide) ?_
        refine lv_icmp_gt (tgt := 22) hx hb dX11_row_13 (by decide) (fun hcd => ?_) (fun hcd => ?_)
        · have h := cdP hcd h
          refine lv_iconst (v := (-1)) hx hb dX11_row_22 (by decide) ?_
          exact ux_iret hx hb hr h hP hD hS hlocks dX11_row_23
        · have h := cdN hcd h
          refine lv_iload_n hx hb dX11_row_16 rfl (lv_at hl 3 rfl) ?_
          refine lv_bipush (v := 60) hx hb dX11_row_17 (by decide) ?_
          refine lv_icmp_le (tgt := 24) hx hb dX11_row_19 (by decide) (fun hcd => ?_) (fun hcd => ?_)
          · have h := cdP hcd h
            refine lv_iload_n hx hb dX11_row_24 rfl (lv_at hl 3 rfl) ?_
            refine lv_if_ge (tgt := 31) hx hb dX11_row_25 (by decide) (fun hcd => ?_) (fun hcd => ?_)
            · have h := cdP hcd h
              refine lv_aload_n hx hb dX11_row_31 rfl (lv_at hl 0 rfl) ?_
              refine ux_get (D := (dC, dI)) (ci := 11) (v := .ref (ad 37)) (C := RX11) (T := TX11) (M := 13) (fs := (oSR ad (σ.1 0))) hx hb hts (fun _ h9 => List.mem_cons_of_mem _ (List.mem_append_left _ (List.mem_append_right _ h9))) hown hK hP 0 (Nat.lt_of_lt_of_le (Nat.le_of_ble_eq_true rfl : 0 < 182) (Nat.le_add_right _ _)) (cC_0 _ _ _ _ _) rfl 12 (by decide) (hts (.fieldLink RX11 98 "SeatsRound" "rows" "LSeatsRound$Rows;") (List.mem_of_getElem? (i := 1) rfl)) (fun _ h9 => h9) rfl dX11_row_32 ?_
              refine lv_iload_n hx hb dX11_row_35 rfl (lv_at hl 1 rfl) ?_
              refine lv_iload_n hx hb dX11_row_36 rfl (lv_at hl 2 rfl) ?_
              refine lv_iload_n hx hb dX11_row_37 rfl (lv_at hl 3 rfl) ?_
              obtain ⟨r3, σ4, hf5, h⟩ := bsS h
              refine ux_callv (va_runV (As := [.int x1, .int x2, .int x3]) (rest := []) ⟨hx, hb, hml, hown, hts⟩ (tX7_holdRow l dC dI cy ad τ nb hτ σ x1 x2 x3 H.size r3 σ4 hf5) (cwV 3 hts gX11_row_X7_holdRow rfl rfl rfl (by decide +kernel) ⟨Nat.le_of_ble_eq_true rfl, Nat.le_of_ble_eq_true rfl⟩) (wp_V hK hN hP hD (va_recv hK hP (ci := 7) (q0 := 37) rfl (wG_of (Nat.lt_of_lt_of_le (Nat.le_of_ble_eq_true rfl : 37 < 182) (Nat.le_add_right _ _)) (cC_37 _ _ _ _ _)))) rfl rfl hl.1 rfl (lv_room (Nat.le_of_ble_eq_true rfl)) dX11_row_38 ⟨Nat.le_of_ble_eq_true rfl, Nat.le_of_ble_eq_true rfl⟩) hD hS hA (fun H locs hP hD hS => ?_)
              refine lv_iconst (v := 1) hx hb dX11_row_41 (by decide) ?_
              exact ux_iret hx hb hr h hP hD hS hlocks dX11_row_42
            · have h := cdN hcd h
              refine lv_bipush (v := (-14)) hx hb dX11_row_28 (by decide) ?_
              exact ux_iret hx hb hr h hP hD hS hlocks dX11_row_30
          · have h := cdN hcd h
            refine lv_iconst (v := (-1)) hx hb dX11_row_22 (by decide) ?_
            exact ux_iret hx hb hr h hP hD hS hlocks dX11_row_23
  intro H locs ls h hP hD hS hl
  exact w0 σ a1 a2 a3 H locs ls h hP hD hS (lv_sub hl [0, 1, 2, 3] rfl)

set_option maxHeartbeats 4000000 in
set_option maxRecDepth 100000 in
theorem tX11_put (l : Launch) (dC : Nat → ClassId) (dI : Nat → Nat → Nat) (cy : Nat → ClassId) (ad : Nat → Nat) (τ nb : Nat) (hτ : τ < nb) (σ : S2) (a1 : Int32) (a2 : Int32) (a3 : Int64) (sz : Nat) (r0 : Int32) (σ9 : S2) (h : fX11_put τ σ a1 a2 a3 = some (r0, σ9)) : Met l yX11_put wsX11_put ({ frames := 3, cells := 0, slots := 0, locals := 66 }) (va_Pc [.ref (ad 0), .int a1, .int a2, .long a3] (wPre (dC, dI) cy (wG (cC cy ad τ) ad (182 + 6 * nb) σ) sz)) (va_Qi (fun (r : Int32) (_ : Unit) => r = r0) (fun (_ : Unit) t => wAt (dC, dI) (va_A (wG (cC cy ad τ) ad (182 + 6 * nb) σ) sz) (wG (cC cy ad τ) ad (182 + 6 * nb) σ9) t) (va_A (wG (cC cy ad τ) ad (182 + 6 * nb) σ) sz)) 0 0 (va_A (wG (cC cy ad τ) ad (182 + 6 * nb) σ) sz) := by
  refine Met.ofW (cc := cX11_put) (maxL := 6) (ret := (some .int)) (by decide) rfl ?_
  intro p e s m args below meth c s₁ B hml hv
  obtain ⟨rfl, hsz, hP, hK, hD0, hN⟩ := hv
  have hx := B.exec
  have hb := B.bytes
  have hr := B.returns
  have hts := atoms_spec (ws := wsX11_put) B.pre
  have hown : s.vm.findClass RX11 = some m.cls := findClass_of_methodNamed B.named
  have hlocks := B.notSynchronized
  subst hsz
  have hD := hD0.self (sz := s.heap.size)
  generalize hAe : va_A (wG (cC cy ad τ) ad (182 + 6 * nb) σ) s.heap.size = A at hD ⊢
  have hA : ∀ q : Nat, s.heap.size ≤ q → A q := fun q h => by rw [← hAe]; exact Or.inr h
  have hS : va_S A s.heap s.heap [] := va_S.rf
  have hl := lv_entry ([.ref (ad 0), .int a1, .int a2, .long a3]) (n := 6) (Nat.le_of_ble_eq_true rfl)
  rw [lg_entry_eq]
  generalize (lg_sl ([.ref (ad 0), .int a1, .int a2, .long a3]) ++ List.replicate (6 - (lg_sl ([.ref (ad 0), .int a1, .int a2, .long a3])).length) Slot.unset).toArray = ls at hl ⊢
  have hl : lv_has ls 6 [(0, .ref (ad 0)), (1, .int a1), (2, .int a2), (3, .long a3)] := hl
  unfold fX11_put at h
  clear hAe hD0
  suffices HH : ∀ (H : Heap) (locs : List Loc) (ls : Array Slot), fX11_put_0 τ σ a1 a2 a3 = some (r0, σ9) → va_P (dC, dI) vwCl (wG (cC cy ad τ) ad (182 + 6 * nb) σ) H → va_D A (wG (cC cy ad τ) ad (182 + 6 * nb) σ) → va_S A s.heap H locs → lv_has ls 6 [(0, .ref (ad 0)), (1, .int a1), (2, .int a2), (3, .long a3)] → W p l e (headSpec wsX11_put ({ frames := 3, cells := 0, slots := 0, locals := 66 })).room s m (#[.ref (ad 0), .int a1, .int a2, .long a3]) below meth c H locs 0 0 (MQ below (va_Qi (fun (r : Int32) (_ : Unit) => r = r0) (fun (_ : Unit) t => wAt (dC, dI) A (wG (cC cy ad τ) ad (182 + 6 * nb) σ9) t) A) (#[.ref (ad 0), .int a1, .int a2, .long a3]) s 0 0 A) (F0 m 0 ls []) from HH s.heap [] ls h hP hD hS hl
  have w0 : ∀ (σ : S2) (x1 : Int32) (x2 : Int32) (x3 : Int64) (H : Heap) (locs : List Loc) (ls : Array Slot), fX11_put_0 τ σ x1 x2 x3 = some (r0, σ9) → va_P (dC, dI) vwCl (wG (cC cy ad τ) ad (182 + 6 * nb) σ) H → va_D A (wG (cC cy ad τ) ad (182 + 6 * nb) σ) → va_S A s.heap H locs → lv_has ls 6 [(0, .ref (ad 0)), (1, .int x1), (2, .int x2), (3, .long x3)] → W p l e (headSpec wsX11_put ({ frames := 3, cells := 0, slots := 0, locals := 66 })).room s m (#[.ref (ad 0), .int a1, .int a2, .long a3]) below meth c H locs 0 0 (MQ below (va_Qi (fun (r : Int32) (_ : Unit) => r = r0) (fun (_ : Unit) t => wAt (dC, dI) A (wG (cC cy ad τ) ad (182 + 6 * nb) σ9) t) A) (#[.ref (ad 0), .int a1, .int a2, .long a3]) s 0 0 A) (F0 m 0 ls []) := by
    intro σ x1 x2 x3 H locs ls h hP hD hS hl
    unfold fX11_put_0 at h
    refine lv_iload_n hx hb dX11_put_0 rfl (lv_at hl 1 rfl) ?_
    obtain ⟨r1, hf2, h⟩ := biS h
    refine ux_calli (va_runS (As := [.int x1]) (rest := []) ⟨hx, hb, hml, hown, hts⟩ (tX11_isShelf l dC dI cy ad τ nb hτ σ x1 H.size r1 hf2) (va_cwS 1 hts gX11_put_X11_isShelf rfl rfl rfl (by decide +kernel) ⟨Nat.le_of_ble_eq_true rfl, Nat.le_of_ble_eq_true rfl⟩) (wp_S hK hN hP hD) rfl rfl hl.1 rfl (lv_room (Nat.le_of_ble_eq_true rfl)) dX11_put_1 ⟨Nat.le_of_ble_eq_true rfl, Nat.le_of_ble_eq_true rfl⟩) hD hS hA (fun H locs hP hD hS => ?_)
    refine lv_if_ne (tgt := 9) hx hb dX11_put_4 (by decide) (fun hcd => ?_) (fun hcd => ?_)
    · have h := cdN hcd h
      refine lv_aload_n hx hb dX11_put_9 rfl (lv_at hl 0 rfl) ?_
      refine ux_get (D := (dC, dI)) (ci := 11) (v := .ref (ad 37)) (C := RX11) (T := TX11) (M := 13) (fs := (oSR ad (σ.1 0))) hx hb hts (fun _ h9 => List.mem_cons_of_mem _ (List.mem_append_left _ (List.mem_append_right _ h9))) hown hK hP 0 (Nat.lt_of_lt_of_le (Nat.le_of_ble_eq_true rfl : 0 < 182) (Nat.le_add_right _ _)) (cC_0 _ _ _ _ _) rfl 12 (by decide) (hts (.fieldLink RX11 98 "SeatsRound" "rows" "LSeatsRound$Rows;") (List.mem_of_getElem? (i := 1) rfl)) (fun _ h9 => h9) rfl dX11_put_10 ?_
      refine lv_iload_n hx hb dX11_put_13 rfl (lv_at hl 1 rfl) ?_
      refine lv_iload_n hx hb dX11_put_14 rfl (lv_at hl 2 rfl) ?_
      obtain ⟨r3, hf4, h⟩ := biS h
      refine ux_calli (va_runV (As := [.int x1, .int x2]) (rest := []) ⟨hx, hb, hml, hown, hts⟩ (tX7_refusalAt l dC dI cy ad τ nb hτ σ x1 x2 H.size r3 hf4) (cwV 2 hts gX11_put_X7_refusalAt rfl rfl rfl (by decide +kernel) ⟨Nat.le_of_ble_eq_true rfl, Nat.le_of_ble_eq_true rfl⟩) (wp_V hK hN hP hD (va_recv hK hP (ci := 7) (q0 := 37) rfl (wG_of (Nat.lt_of_lt_of_le (Nat.le_of_ble_eq_true rfl : 37 < 182) (Nat.le_add_right _ _)) (cC_37 _ _ _ _ _)))) rfl rfl hl.1 rfl (lv_room (Nat.le_of_ble_eq_true rfl)) dX11_put_15 ⟨Nat.le_of_ble_eq_true rfl, Nat.le_of_ble_eq_true rfl⟩) hD hS hA (fun H locs hP hD hS => ?_)
      refine lv_istore (lv' := [(5, .int r3), (0, .ref (ad 0)), (1, .int x1), (2, .int x2), (3, .long x3)]) hx hb dX11_put_18 hl (by decide) rfl (fun ls hl => ?_)
      have hl := lv_sub hl [1, 2, 3, 4, 0] (l' := [(0, .ref (ad 0)), (1, .int x1), (2, .int x2), (3, .long x3), (5, .int r3)]) rfl
      refine lv_iload hx hb dX11_put_20 (lv_at hl 4 rfl) ?_
      refine lv_if_eq (tgt := 28) hx hb dX11_put_22 (by decide) (fun hcd => ?_) (fun hcd => ?_)
      · have h := cdP hcd h
        refine lv_aload_n hx hb dX11_put_28 rfl (lv_at hl 0 rfl) ?_
        refine ux_get (D := (dC, dI)) (ci := 11) (v := .ref (ad 37)) (C := RX11) (T := TX11) (M := 13) (fs := (oSR ad (σ.1 0))) hx hb hts (fun _ h9 => List.mem_cons_of_mem _ (List.mem_append_left _ (List.mem_append_right _ h9))) hown hK hP 0 (Nat.lt_of_lt_of_le (Nat.le_of_ble_eq_true rfl : 0 < 182) (Nat.le_add_right _ _)) (cC_0 _ _ _ _ _) rfl 12 (by decide) (hts (.fieldLink RX11 98 "SeatsRound" "rows" "LSeatsRound$Rows;") (List.mem_of_getElem? (i := 1) rfl)) (fun _ h9 => h9) rfl dX11_put_29 ?_
        refine ux_get (D := (dC, dI)) (ci := 7) (v := .ref (ad 41)) (C := RX7) (T := TX7) (M := 4) (fs := (oRW ad (σ.1 37))) hx hb hts (fun _ h9 => List.mem_cons_of_mem _ (List.mem_append_right _ h9)) hown hK hP 37 (Nat.lt_of_lt_of_le (Nat.le_of_ble_eq_true rfl : 37 < 182) (Nat.le_add_right _ _)) (cC_37 _ _ _ _ _) rfl 3 (by decide) (hts (.fieldLink RX11 367 "SeatsRound$Rows" "elements" "[[J") (List.mem_of_getElem? (i := 2) rfl)) (fun _ h9 => h9) rfl dX11_put_32 ?_
        refine lv_iload_n hx hb dX11_put_35 rfl (lv_at hl 1 rfl) ?_
        obtain ⟨hii5, h⟩ := ckS h
        have hri5 := vp_lt hii5
        refine vz_aldg hx hb hK hP 41 7 (wG_of (Nat.lt_of_lt_of_le (Nat.le_of_ble_eq_true rfl : 41 < 182) (Nat.le_add_right _ _)) (cC_41 _ _ _ _ _)) rfl hii5 (if_pos hri5) dX11_put_36 ?_
        refine lv_iload_n hx hb dX11_put_37 rfl (lv_at hl 2 rfl) ?_
        refine lv_aload_n hx hb dX11_put_38 rfl (lv_at hl 0 rfl) ?_
        refine ux_get (D := (dC, dI)) (ci := 11) (v := .ref (ad 37)) (C := RX11) (T := TX11) (M := 13) (fs := (oSR ad (σ.1 0))) hx hb hts (fun _ h9 => List.mem_cons_of_mem _ (List.mem_append_left _ (List.mem_append_right _ h9))) hown hK hP 0 (Nat.lt_of_lt_of_le (Nat.le_of_ble_eq_true rfl : 0 < 182) (Nat.le_add_right _ _)) (cC_0 _ _ _ _ _) rfl 12 (by decide) (hts (.fieldLink RX11 98 "SeatsRound" "rows" "LSeatsRound$Rows;") (List.mem_of_getElem? (i := 1) rfl)) (fun _ h9 => h9) rfl dX11_put_39 ?_
        refine ux_get (D := (dC, dI)) (ci := 7) (v := .ref (ad 39)) (C := RX7) (T := TX7) (M := 4) (fs := (oRW ad (σ.1 37))) hx hb hts (fun _ h9 => List.mem_cons_of_mem _ (List.mem_append_right _ h9)) hown hK hP 37 (Nat.lt_of_lt_of_le (Nat.le_of_ble_eq_true rfl : 37 < 182) (Nat.le_add_right _ _)) (cC_37 _ _ _ _ _) rfl 1 (by decide) (hts (.fieldLink RX11 371 "SeatsRound$Rows" "sort" "[I") (List.mem_of_getElem? (i := 3) rfl)) (fun _ h9 => h9) rfl dX11_put_42 ?_
        refine lv_iload_n hx hb dX11_put_45 rfl (lv_at hl 1 rfl) ?_
        refine ux_iald hx hb hK hP 39 0 (Nat.lt_of_lt_of_le (Nat.le_of_ble_eq_true rfl : 39 < 182) (Nat.le_add_right _ _)) (cC_39 _ _ _ _ _) rfl h dX11_put_46 (fun v6 h => ?_)
        refine lv_lload_n hx hb dX11_put_47 rfl (lv_at hl 3 rfl) ?_
        obtain ⟨r7, hf8, h⟩ := biS h
        refine ux_calll (va_runS (As := [.int v6, .long x3]) (rest := [.int x2, .ref (ad (176 + Int32.toNatClampNeg x1))]) ⟨hx, hb, hml, hown, hts⟩ (tX7_lowest l dC dI cy ad τ nb hτ σ v6 x3 H.size r7 hf8) (va_cwS 2 hts gX11_put_X7_lowest rfl rfl rfl (by decide +kernel) ⟨Nat.le_of_ble_eq_true rfl, Nat.le_of_ble_eq_true rfl⟩) (wp_S hK hN hP hD) rfl rfl hl.1 rfl (lv_room (Nat.le_of_ble_eq_true rfl)) dX11_put_48 ⟨Nat.le_of_ble_eq_true rfl, Nat.le_of_ble_eq_true rfl⟩) hD hS hA (fun H locs hP hD hS => ?_)
        refine ux_last hx hb hK hP hD hS (176 + Int32.toNatClampNeg x1) 4 (by omega) (fun _ => (cC_r7 _ _ _ _ _ _ (by omega))) rfl h dX11_put_51 (fun σ9 H locs h hP hD hS => ?_)
        refine lv_iconst (v := 1) hx hb dX11_put_52 (by decide) ?_
        exact ux_iret hx hb hr h hP hD hS hlocks dX11_put_53
      · have h := cdN hcd h
        refine lv_iload hx hb dX11_put_25 (lv_at hl 4 rfl) ?_
        exact ux_iret hx hb hr h hP hD hS hlocks dX11_put_27
    · have h := cdP hcd h
      refine lv_iconst (v := (-1)) hx hb dX11_put_7 (by decide) ?_
      exact ux_iret hx hb hr h hP hD hS hlocks dX11_put_8
  intro H locs ls h hP hD hS hl
  exact w0 σ a1 a2 a3 H locs ls h hP hD hS (lv_sub hl [0, 1, 2, 3] rfl)

set_option maxHeartbeats 4000000 in
set_option maxRecDepth 100000 in
theorem tX11_element (l : Launch) (dC : Nat → ClassId) (dI : Nat → Nat → Nat) (cy : Nat → ClassId) (ad : Nat → Nat) (τ nb : Nat) (hτ : τ < nb) (σ : S2) (a1 : Int32) (a2 : Int32) (sz : Nat) (r0 : Int64) (h : fX11_element τ σ a1 a2 = some r0) : Met l yX11_element wsX11_element ({ frames := 3, cells := 0, slots := 0, locals := 66 }) (va_Pc [.ref (ad 0), .int a1, .int a2] (wPre (dC, dI) cy (wG (cC cy ad τ) ad (182 + 6 * nb) σ) sz)) (va_Ql (fun (r : Int64) (_ : Unit) => r = r0) (fun (_ : Unit) t => wAt (dC, dI) (va_A (wG (cC cy ad τ) ad (182 + 6 * nb) σ) sz) (wG (cC cy ad τ) ad (182 + 6 * nb) σ) t) (va_A (wG (cC cy ad τ) ad (182 + 6 * nb) σ) sz)) 0 0 (va_A (wG (cC cy ad τ) ad (182 + 6 * nb) σ) sz) := by
  refine Met.ofW (cc := cX11_element) (maxL := 3) (ret := (some .long)) (by decide) rfl ?_
  intro p e s m args below meth c s₁ B hml hv
  obtain ⟨rfl, hsz, hP, hK, hD0, hN⟩ := hv
  have hx := B.exec
  have hb := B.bytes
  have hr := B.returns
  have hts := atoms_spec (ws := wsX11_element) B.pre
  have hown : s.vm.findClass RX11 = some m.cls := findClass_of_methodNamed B.named
  have hlocks := B.notSynchronized
  subst hsz
  have hD := hD0.self (sz := s.heap.size)
  generalize hAe : va_A (wG (cC cy ad τ) ad (182 + 6 * nb) σ) s.heap.size = A at hD ⊢
  have hA : ∀ q : Nat, s.heap.size ≤ q → A q := fun q h => by rw [← hAe]; exact Or.inr h
  have hS : va_S A s.heap s.heap [] := va_S.rf
  have hl := lv_entry ([.ref (ad 0), .int a1, .int a2]) (n := 3) (Nat.le_of_ble_eq_true rfl)
  rw [lg_entry_eq]
  generalize (lg_sl ([.ref (ad 0), .int a1, .int a2]) ++ List.replicate (3 - (lg_sl ([.ref (ad 0), .int a1, .int a2])).length) Slot.unset).toArray = ls at hl ⊢
  have hl : lv_has ls 3 [(0, .ref (ad 0)), (1, .int a1), (2, .int a2)] := hl
  unfold fX11_element at h
  clear hAe hD0
  suffices HH : ∀ (H : Heap) (locs : List Loc) (ls : Array Slot), fX11_element_0 τ σ a1 a2 = some r0 → va_P (dC, dI) vwCl (wG (cC cy ad τ) ad (182 + 6 * nb) σ) H → va_D A (wG (cC cy ad τ) ad (182 + 6 * nb) σ) → va_S A s.heap H locs → lv_has ls 3 [(0, .ref (ad 0)), (1, .int a1), (2, .int a2)] → W p l e (headSpec wsX11_element ({ frames := 3, cells := 0, slots := 0, locals := 66 })).room s m (#[.ref (ad 0), .int a1, .int a2]) below meth c H locs 0 0 (MQ below (va_Ql (fun (r : Int64) (_ : Unit) => r = r0) (fun (_ : Unit) t => wAt (dC, dI) A (wG (cC cy ad τ) ad (182 + 6 * nb) σ) t) A) (#[.ref (ad 0), .int a1, .int a2]) s 0 0 A) (F0 m 0 ls []) from HH s.heap [] ls h hP hD hS hl
  have w19 : ∀ (σ : S2)  (H : Heap) (locs : List Loc) (ls : Array Slot), fX11_element_19 τ σ = some r0 → va_P (dC, dI) vwCl (wG (cC cy ad τ) ad (182 + 6 * nb) σ) H → va_D A (wG (cC cy ad τ) ad (182 + 6 * nb) σ) → va_S A s.heap H locs → lv_has ls 3 [] → W p l e (headSpec wsX11_element ({ frames := 3, cells := 0, slots := 0, locals := 66 })).room s m (#[.ref (ad 0), .int a1, .int a2]) below meth c H locs 0 0 (MQ below (va_Ql (fun (r : Int64) (_ : Unit) => r = r0) (fun (_ : Unit) t => wAt (dC, dI) A (wG (cC cy ad τ) ad (182 + 6 * nb) σ) t) A) (#[.ref (ad 0), .int a1, .int a2]) s 0 0 A) (F0 m 19 ls []) := by
    intro σ H locs ls h hP hD hS hl
    unfold fX11_element_19 at h
    refine lv_ldc2 hx hb hown (hts (.constantLong RX11 380 (-9223372036854775808)) (List.mem_of_getElem? (i := 2) rfl)) dX11_element_19 ?_
    exact ux_lretP hx hb hr h hP hD hS hlocks dX11_element_22
  have w0 : ∀ (σ : S2) (x1 : Int32) (x2 : Int32) (H : Heap) (locs : List Loc) (ls : Array Slot), fX11_element_0 τ σ x1 x2 = some r0 → va_P (dC, dI) vwCl (wG (cC cy ad τ) ad (182 + 6 * nb) σ) H → va_D A (wG (cC cy ad τ) ad (182 + 6 * nb) σ) → va_S A s.heap H locs → lv_has ls 3 [(0, .ref (ad 0)), (1, .int x1), (2, .int x2)] → W p l e (headSpec wsX11_element ({ frames := 3, cells := 0, slots := 0, locals := 66 })).room s m (#[.ref (ad 0), .int a1, .int a2]) below meth c H locs 0 0 (MQ below (va_Ql (fun (r : Int64) (_ : Unit) => r = r0) (fun (_ : Unit) t => wAt (dC, dI) A (wG (cC cy ad τ) ad (182 + 6 * nb) σ) t) A) (#[.ref (ad 0), .int a1, .int a2]) s 0 0 A) (F0 m 0 ls []) := by
    intro σ x1 x2 H locs ls h hP hD hS hl
    unfold fX11_element_0 at h
    refine lv_iload_n hx hb dX11_element_0 rfl (lv_at hl 1 rfl) ?_
    obtain ⟨r1, hf2, h⟩ := biS h
    refine ux_calli (va_runS (As := [.int x1]) (rest := []) ⟨hx, hb, hml, hown, hts⟩ (tX11_isShelf l dC dI cy ad τ nb hτ σ x1 H.size r1 hf2) (va_cwS 1 hts gX11_element_X11_isShelf rfl rfl rfl (by decide +kernel) ⟨Nat.le_of_ble_eq_true rfl, Nat.le_of_ble_eq_true rfl⟩) (wp_S hK hN hP hD) rfl rfl hl.1 rfl (lv_room (Nat.le_of_ble_eq_true rfl)) dX11_element_1 ⟨Nat.le_of_ble_eq_true rfl, Nat.le_of_ble_eq_true rfl⟩) hD hS hA (fun H locs hP hD hS => ?_)
    refine lv_if_eq (tgt := 19) hx hb dX11_element_4 (by decide) (fun hcd => ?_) (fun hcd => ?_)
    · have h := cdP hcd h
      exact w19 σ H locs ls h hP hD hS (lv_sub hl [] rfl)
    · have h := cdN hcd h
      refine lv_aload_n hx hb dX11_element_7 rfl (lv_at hl 0 rfl) ?_
      refine ux_get (D := (dC, dI)) (ci := 11) (v := .ref (ad 37)) (C := RX11) (T := TX11) (M := 13) (fs := (oSR ad (σ.1 0))) hx hb hts (fun _ h9 => List.mem_cons_of_mem _ (List.mem_append_left _ (List.mem_append_right _ h9))) hown hK hP 0 (Nat.lt_of_lt_of_le (Nat.le_of_ble_eq_true rfl : 0 < 182) (Nat.le_add_right _ _)) (cC_0 _ _ _ _ _) rfl 12 (by decide) (hts (.fieldLink RX11 98 "SeatsRound" "rows" "LSeatsRound$Rows;") (List.mem_of_getElem? (i := 1) rfl)) (fun _ h9 => h9) rfl dX11_element_8 ?_
      refine lv_iload_n hx hb dX11_element_11 rfl (lv_at hl 1 rfl) ?_
      refine lv_iload_n hx hb dX11_element_12 rfl (lv_at hl 2 rfl) ?_
      obtain ⟨r3, hf4, h⟩ := biS h
      refine ux_calli (va_runV (As := [.int x1, .int x2]) (rest := []) ⟨hx, hb, hml, hown, hts⟩ (tX7_refusalAt l dC dI cy ad τ nb hτ σ x1 x2 H.size r3 hf4) (cwV 2 hts gX11_element_X7_refusalAt rfl rfl rfl (by decide +kernel) ⟨Nat.le_of_ble_eq_true rfl, Nat.le_of_ble_eq_true rfl⟩) (wp_V hK hN hP hD (va_recv hK hP (ci := 7) (q0 := 37) rfl (wG_of (Nat.lt_of_lt_of_le (Nat.le_of_ble_eq_true rfl : 37 < 182) (Nat.le_add_right _ _)) (cC_37 _ _ _ _ _)))) rfl rfl hl.1 rfl (lv_room (Nat.le_of_ble_eq_true rfl)) dX11_element_13 ⟨Nat.le_of_ble_eq_true rfl, Nat.le_of_ble_eq_true rfl⟩) hD hS hA (fun H locs hP hD hS => ?_)
      refine lv_if_eq (tgt := 23) hx hb dX11_element_16 (by decide) (fun hcd => ?_) (fun hcd => ?_)
      · have h := cdP hcd h
        refine lv_aload_n hx hb dX11_element_23 rfl (lv_at hl 0 rfl) ?_
        refine ux_get (D := (dC, dI)) (ci := 11) (v := .ref (ad 37)) (C := RX11) (T := TX11) (M := 13) (fs := (oSR ad (σ.1 0))) hx hb hts (fun _ h9 => List.mem_cons_of_mem _ (List.mem_append_left _ (List.mem_append_right _ h9))) hown hK hP 0 (Nat.lt_of_lt_of_le (Nat.le_of_ble_eq_true rfl : 0 < 182) (Nat.le_add_right _ _)) (cC_0 _ _ _ _ _) rfl 12 (by decide) (hts (.fieldLink RX11 98 "SeatsRound" "rows" "LSeatsRound$Rows;") (List.mem_of_getElem? (i := 1) rfl)) (fun _ h9 => h9) rfl dX11_element_24 ?_
        refine ux_get (D := (dC, dI)) (ci := 7) (v := .ref (ad 41)) (C := RX7) (T := TX7) (M := 4) (fs := (oRW ad (σ.1 37))) hx hb hts (fun _ h9 => List.mem_cons_of_mem _ (List.mem_append_right _ h9)) hown hK hP 37 (Nat.lt_of_lt_of_le (Nat.le_of_ble_eq_true rfl : 37 < 182) (Nat.le_add_right _ _)) (cC_37 _ _ _ _ _) rfl 3 (by decide) (hts (.fieldLink RX11 367 "SeatsRound$Rows" "elements" "[[J") (List.mem_of_getElem? (i := 3) rfl)) (fun _ h9 => h9) rfl dX11_element_27 ?_
        refine lv_iload_n hx hb dX11_element_30 rfl (lv_at hl 1 rfl) ?_
        obtain ⟨hii5, h⟩ := ckS h
        have hri5 := vp_lt hii5
        refine vz_aldg hx hb hK hP 41 7 (wG_of (Nat.lt_of_lt_of_le (Nat.le_of_ble_eq_true rfl : 41 < 182) (Nat.le_add_right _ _)) (cC_41 _ _ _ _ _)) rfl hii5 (if_pos hri5) dX11_element_31 ?_
        refine lv_iload_n hx hb dX11_element_32 rfl (lv_at hl 2 rfl) ?_
        refine ux_lald hx hb hK hP (176 + Int32.toNatClampNeg x1) 4 (by omega) (cC_r7 _ _ _ _ _ _ (by omega)) rfl h dX11_element_33 (fun v6 h => ?_)
        exact ux_lretP hx hb hr h hP hD hS hlocks dX11_element_34
      · have h := cdN hcd h
        exact w19 σ H locs ls h hP hD hS (lv_sub hl [] rfl)
  intro H locs ls h hP hD hS hl
  exact w0 σ a1 a2 H locs ls h hP hD hS (lv_sub hl [0, 1, 2] rfl)

set_option maxHeartbeats 4000000 in
set_option maxRecDepth 100000 in
theorem tX11_shift (l : Launch) (dC : Nat → ClassId) (dI : Nat → Nat → Nat) (cy : Nat → ClassId) (ad : Nat → Nat) (τ nb : Nat) (hτ : τ < nb) (σ : S2) (a1 : Int32) (a2 : Int32) (a3 : Int32) (a4 : Int32) (a5 : Int32) (sz : Nat) (r0 : Int32) (σ9 : S2) (h : fX11_shift τ σ a1 a2 a3 a4 a5 = some (r0, σ9)) : Met l yX11_shift wsX11_shift ({ frames := 2, cells := 0, slots := 0, locals := 60 }) (va_Pc [.ref (ad 0), .int a1, .int a2, .int a3, .int a4, .int a5] (wPre (dC, dI) cy (wG (cC cy ad τ) ad (182 + 6 * nb) σ) sz)) (va_Qi (fun (r : Int32) (_ : Unit) => r = r0) (fun (_ : Unit) t => wAt (dC, dI) (va_A (wG (cC cy ad τ) ad (182 + 6 * nb) σ) sz) (wG (cC cy ad τ) ad (182 + 6 * nb) σ9) t) (va_A (wG (cC cy ad τ) ad (182 + 6 * nb) σ) sz)) 0 0 (va_A (wG (cC cy ad τ) ad (182 + 6 * nb) σ) sz) := by
  refine Met.ofW (cc := cX11_shift) (maxL := 6) (ret := (some .int)) (by decide) rfl ?_
  intro p e s m args below meth c s₁ B hml hv
  obtain ⟨rfl, hsz, hP, hK, hD0, hN⟩ := hv
  have hx := B.exec
  have hb := B.bytes
  have hr := B.returns
  have hts := atoms_spec (ws := wsX11_shift) B.pre
  have hown : s.vm.findClass RX11 = some m.cls := findClass_of_methodNamed B.named
  have hlocks := B.notSynchronized
  subst hsz
  have hD := hD0.self (sz := s.heap.size)
  generalize hAe : va_A (wG (cC cy ad τ) ad (182 + 6 * nb) σ) s.heap.size = A at hD ⊢
  have hA : ∀ q : Nat, s.heap.size ≤ q → A q := fun q h => by rw [← hAe]; exact Or.inr h
  have hS : va_S A s.heap s.heap [] := va_S.rf
  have hl := lv_entry ([.ref (ad 0), .int a1, .int a2, .int a3, .int a4, .int a5]) (n := 6) (Nat.le_of_ble_eq_true rfl)
  rw [lg_entry_eq]
  generalize (lg_sl ([.ref (ad 0), .int a1, .int a2, .int a3, .int a4, .int a5]) ++ List.replicate (6 - (lg_sl ([.ref (ad 0), .int a1, .int a2, .int a3, .int a4, .int a5])).length) Slot.unset).toArray = ls at hl ⊢
  have hl : lv_has ls 6 [(0, .ref (ad 0)), (1, .int a1), (2, .int a2), (3, .int a3), (4, .int a4), (5, .int a5)] := hl
  unfold fX11_shift at h
  clear hAe hD0
  suffices HH : ∀ (H : Heap) (locs : List Loc) (ls : Array Slot), fX11_shift_0 τ σ a1 a2 a3 a4 a5 = some (r0, σ9) → va_P (dC, dI) vwCl (wG (cC cy ad τ) ad (182 + 6 * nb) σ) H → va_D A (wG (cC cy ad τ) ad (182 + 6 * nb) σ) → va_S A s.heap H locs → lv_has ls 6 [(0, .ref (ad 0)), (1, .int a1), (2, .int a2), (3, .int a3), (4, .int a4), (5, .int a5)] → W p l e (headSpec wsX11_shift ({ frames := 2, cells := 0, slots := 0, locals := 60 })).room s m (#[.ref (ad 0), .int a1, .int a2, .int a3, .int a4, .int a5]) below meth c H locs 0 0 (MQ below (va_Qi (fun (r : Int32) (_ : Unit) => r = r0) (fun (_ : Unit) t => wAt (dC, dI) A (wG (cC cy ad τ) ad (182 + 6 * nb) σ9) t) A) (#[.ref (ad 0), .int a1, .int a2, .int a3, .int a4, .int a5]) s 0 0 A) (F0 m 0 ls []) from HH s.heap [] ls h hP hD hS hl
  have w0 : ∀ (σ : S2) (x1 : Int32) (x2 : Int32) (x3 : Int32) (x4 : Int32) (x5 : Int32) (H : Heap) (locs : List Loc) (ls : Array Slot), fX11_shift_0 τ σ x1 x2 x3 x4 x5 = some (r0, σ9) → va_P (dC, dI) vwCl (wG (cC cy ad τ) ad (182 + 6 * nb) σ) H → va_D A (wG (cC cy ad τ) ad (182 + 6 * nb) σ) → va_S A s.heap H locs → lv_has ls 6 [(0, .ref (ad 0)), (1, .int x1), (2, .int x2), (3, .int x3), (4, .int x4), (5, .int x5)] → W p l e (headSpec wsX11_shift ({ frames := 2, cells := 0, slots := 0, locals := 60 })).room s m (#[.ref (ad 0), .int a1, .int a2, .int a3, .int a4, .int a5]) below meth c H locs 0 0 (MQ below (va_Qi (fun (r : Int32) (_ : Unit) => r = r0) (fun (_ : Unit) t => wAt (dC, dI) A (wG (cC cy ad τ) ad (182 + 6 * nb) σ9) t) A) (#[.ref (ad 0), .int a1, .int a2, .int a3, .int a4, .int a5]) s 0 0 A) (F0 m 0 ls []) := by
    intro σ x1 x2 x3 x4 x5 H locs ls h hP hD hS hl
    unfold fX11_shift_0 at h
    refine lv_iload_n hx hb dX11_shift_0 rfl (lv_at hl 1 rfl) ?_
    obtain ⟨r1, hf2, h⟩ := biS h
    refine ux_calli (va_runS (As := [.int x1]) (rest := []) ⟨hx, hb, hml, hown, hts⟩ (tX11_isShelf l dC dI cy ad τ nb hτ σ x1 H.size r1 hf2) (va_cwS 1 hts gX11_shift_X11_isShelf rfl rfl rfl (by decide +kernel) ⟨Nat.le_of_ble_eq_true rfl, Nat.le_of_ble_eq_true rfl⟩) (wp_S hK hN hP hD) rfl rfl hl.1 rfl (lv_room (Nat.le_of_ble_eq_true rfl)) dX11_shift_1 ⟨Nat.le_of_ble_eq_true rfl, Nat.le_of_ble_eq_true rfl⟩) hD hS hA (fun H locs hP hD hS => ?_)
    refine lv_if_eq (tgt := 14) hx hb dX11_shift_4 (by decide) (fun hcd => ?_) (fun hcd => ?_)
    · have h := cdP hcd h
      refine lv_iconst (v := (-1)) hx hb dX11_shift_14 (by decide) ?_
      exact ux_iret hx hb hr h hP hD hS hlocks dX11_shift_15
    · have h := cdN hcd h
      refine lv_iload_n hx hb dX11_shift_7 rfl (lv_at hl 3 rfl) ?_
      obtain ⟨r3, hf4, h⟩ := biS h
      refine ux_calli (va_runS (As := [.int x3]) (rest := []) ⟨hx, hb, hml, hown, hts⟩ (tX11_isShelf l dC dI cy ad τ nb hτ σ x3 H.size r3 hf4) (va_cwS 1 hts gX11_shift_X11_isShelf rfl rfl rfl (by decide +kernel) ⟨Nat.le_of_ble_eq_true rfl, Nat.le_of_ble_eq_true rfl⟩) (wp_S hK hN hP hD) rfl rfl hl.1 rfl (lv_room (Nat.le_of_ble_eq_true rfl)) dX11_shift_8 ⟨Nat.le_of_ble_eq_true rfl, Nat.le_of_ble_eq_true rfl⟩) hD hS hA (fun H locs hP hD hS => ?_)
      refine lv_if_ne (tgt := 16) hx hb dX11_shift_11 (by decide) (fun hcd => ?_) (fun hcd => ?_)
      · have h := cdN hcd h
        refine lv_aload_n hx hb dX11_shift_16 rfl (lv_at hl 0 rfl) ?_
        refine ux_get (D := (dC, dI)) (ci := 11) (v := .ref (ad 37)) (C := RX11) (T := TX11) (M := 13) (fs := (oSR ad (σ.1 0))) hx hb hts (fun _ h9 => List.mem_cons_of_mem _ (List.mem_append_left _ (List.mem_append_right _ h9))) hown hK hP 0 (Nat.lt_of_lt_of_le (Nat.le_of_ble_eq_true rfl : 0 < 182) (Nat.le_add_right _ _)) (cC_0 _ _ _ _ _) rfl 12 (by decide) (hts (.fieldLink RX11 98 "SeatsRound" "rows" "LSeatsRound$Rows;") (List.mem_of_getElem? (i := 1) rfl)) (fun _ h9 => h9) rfl dX11_shift_17 ?_
        refine lv_iload_n hx hb dX11_shift_20 rfl (lv_at hl 1 rfl) ?_
        obtain ⟨r5, hf6, h⟩ := biS h
        refine ux_calli (va_runV (As := [.int x1]) (rest := []) ⟨hx, hb, hml, hown, hts⟩ (tX7_isEmpty l dC dI cy ad τ nb hτ σ x1 H.size r5 hf6) (cwV 1 hts gX11_shift_X7_isEmpty rfl rfl rfl (by decide +kernel) ⟨Nat.le_of_ble_eq_true rfl, Nat.le_of_ble_eq_true rfl⟩) (wp_V hK hN hP hD (va_recv hK hP (ci := 7) (q0 := 37) rfl (wG_of (Nat.lt_of_lt_of_le (Nat.le_of_ble_eq_true rfl : 37 < 182) (Nat.le_add_right _ _)) (cC_37 _ _ _ _ _)))) rfl rfl hl.1 rfl (lv_room (Nat.le_of_ble_eq_true rfl)) dX11_shift_21 ⟨Nat.le_of_ble_eq_true rfl, Nat.le_of_ble_eq_true rfl⟩) hD hS hA (fun H locs hP hD hS => ?_)
        refine lv_if_ne (tgt := 38) hx hb dX11_shift_24 (by decide) (fun hcd => ?_) (fun hcd => ?_)
        · have h := cdN hcd h
          refine lv_bipush (v := (-11)) hx hb dX11_shift_38 (by decide) ?_
          exact ux_iret hx hb hr h hP hD hS hlocks dX11_shift_40
        · have h := cdP hcd h
          refine lv_aload_n hx hb dX11_shift_27 rfl (lv_at hl 0 rfl) ?_
          refine ux_get (D := (dC, dI)) (ci := 11) (v := .ref (ad 37)) (C := RX11) (T := TX11) (M := 13) (fs := (oSR ad (σ.1 0))) hx hb hts (fun _ h9 => List.mem_cons_of_mem _ (List.mem_append_left _ (List.mem_append_right _ h9))) hown hK hP 0 (Nat.lt_of_lt_of_le (Nat.le_of_ble_eq_true rfl : 0 < 182) (Nat.le_add_right _ _)) (cC_0 _ _ _ _ _) rfl 12 (by decide) (hts (.fieldLink RX11 98 "SeatsRound" "rows" "LSeatsRound$Rows;") (List.mem_of_getElem? (i := 1) rfl)) (fun _ h9 => h9) rfl dX11_shift_28 ?_
          refine lv_iload_n hx hb dX11_shift_31 rfl (lv_at hl 3 rfl) ?_
          obtain ⟨r7, hf8, h⟩ := biS h
          refine ux_calli (va_runV (As := [.int x3]) (rest := []) ⟨hx, hb, hml, hown, hts⟩ (tX7_isEmpty l dC dI cy ad τ nb hτ σ x3 H.size r7 hf8) (cwV 1 hts gX11_shift_X7_isEmpty rfl rfl rfl (by decide +kernel) ⟨Nat.le_of_ble_eq_true rfl, Nat.le_of_ble_eq_true rfl⟩) (wp_V hK hN hP hD (va_recv hK hP (ci := 7) (q0 := 37) rfl (wG_of (Nat.lt_of_lt_of_le (Nat.le_of_ble_eq_true rfl : 37 < 182) (Nat.le_add_right _ _)) (cC_37 _ _ _ _ _)))) rfl rfl hl.1 rfl (lv_room (Nat.le_of_ble_eq_true rfl)) dX11_shift_32 ⟨Nat.le_of_ble_eq_true rfl, Nat.le_of_ble_eq_true rfl⟩) hD hS hA (fun H locs hP hD hS => ?_)
          refine lv_if_eq (tgt := 41) hx hb dX11_shift_35 (by decide) (fun hcd => ?_) (fun hcd => ?_)
          · have h := cdP hcd h
            refine lv_aload_n hx hb dX11_shift_41 rfl (lv_at hl 0 rfl) ?_
            refine ux_get (D := (dC, dI)) (ci := 11) (v := .ref (ad 37)) (C := RX11) (T := TX11) (M := 13) (fs := (oSR ad (σ.1 0))) hx hb hts (fun _ h9 => List.mem_cons_of_mem _ (List.mem_append_left _ (List.mem_append_right _ h9))) hown hK hP 0 (Nat.lt_of_lt_of_le (Nat.le_of_ble_eq_true rfl : 0 < 182) (Nat.le_add_right _ _)) (cC_0 _ _ _ _ _) rfl 12 (by decide) (hts (.fieldLink RX11 98 "SeatsRound" "rows" "LSeatsRound$Rows;") (List.mem_of_getElem? (i := 1) rfl)) (fun _ h9 => h9) rfl dX11_shift_42 ?_
            refine lv_iload_n hx hb dX11_shift_45 rfl (lv_at hl 1 rfl) ?_
            obtain ⟨r9, hf10, h⟩ := biS h
            refine ux_calli (va_runV (As := [.int x1]) (rest := []) ⟨hx, hb, hml, hown, hts⟩ (tX7_isRow l dC dI cy ad τ nb hτ σ x1 H.size r9 hf10) (cwV 1 hts gX11_shift_X7_isRow rfl rfl rfl (by decide +kernel) ⟨Nat.le_of_ble_eq_true rfl, Nat.le_of_ble_eq_true rfl⟩) (wp_V hK hN hP hD (va_recv hK hP (ci := 7) (q0 := 37) rfl (wG_of (Nat.lt_of_lt_of_le (Nat.le_of_ble_eq_true rfl : 37 < 182) (Nat.le_add_right _ _)) (cC_37 _ _ _ _ _)))) rfl rfl hl.1 rfl (lv_room (Nat.le_of_ble_eq_true rfl)) dX11_shift_46 ⟨Nat.le_of_ble_eq_true rfl, Nat.le_of_ble_eq_true rfl⟩) hD hS hA (fun H locs hP hD hS => ?_)
            refine lv_if_eq (tgt := 84) hx hb dX11_shift_49 (by decide) (fun hcd => ?_) (fun hcd => ?_)
            · have h := cdP hcd h
              refine lv_bipush (v := (-12)) hx hb dX11_shift_84 (by decide) ?_
              exact ux_iret hx hb hr h hP hD hS hlocks dX11_shift_86
            · have h := cdN hcd h
              refine lv_aload_n hx hb dX11_shift_52 rfl (lv_at hl 0 rfl) ?_
              refine ux_get (D := (dC, dI)) (ci := 11) (v := .ref (ad 37)) (C := RX11) (T := TX11) (M := 13) (fs := (oSR ad (σ.1 0))) hx hb hts (fun _ h9 => List.mem_cons_of_mem _ (List.mem_append_left _ (List.mem_append_right _ h9))) hown hK hP 0 (Nat.lt_of_lt_of_le (Nat.le_of_ble_eq_true rfl : 0 < 182) (Nat.le_add_right _ _)) (cC_0 _ _ _ _ _) rfl 12 (by decide) (hts (.fieldLink RX11 98 "SeatsRound" "rows" "LSeatsRound$Rows;") (List.mem_of_getElem? (i := 1) rfl)) (fun _ h9 => h9) rfl dX11_shift_53 ?_
              refine lv_iload_n hx hb dX11_shift_56 rfl (lv_at hl 3 rfl) ?_
              obtain ⟨r11, hf12, h⟩ := biS h
              refine ux_calli (va_runV (As := [.int x3]) (rest := []) ⟨hx, hb, hml, hown, hts⟩ (tX7_isRow l dC dI cy ad τ nb hτ σ x3 H.size r11 hf12) (cwV 1 hts gX11_shift_X7_isRow rfl rfl rfl (by decide +kernel) ⟨Nat.le_of_ble_eq_true rfl, Nat.le_of_ble_eq_true rfl⟩) (wp_V hK hN hP hD (va_recv hK hP (ci := 7) (q0 := 37) rfl (wG_of (Nat.lt_of_lt_of_le (Nat.le_of_ble_eq_true rfl : 37 < 182) (Nat.le_add_right _ _)) (cC_37 _ _ _ _ _)))) rfl rfl hl.1 rfl (lv_room (Nat.le_of_ble_eq_true rfl)) dX11_shift_57 ⟨Nat.le_of_ble_eq_true rfl, Nat.le_of_ble_eq_true rfl⟩) hD hS hA (fun H locs hP hD hS => ?_)
              refine lv_if_eq (tgt := 84) hx hb dX11_shift_60 (by decide) (fun hcd => ?_) (fun hcd => ?_)
              · have h := cdP hcd h
                refine lv_bipush (v := (-12)) hx hb dX11_shift_84 (by decide) ?_
                exact ux_iret hx hb hr h hP hD hS hlocks dX11_shift_86
              · have h := cdN hcd h
                refine lv_aload_n hx hb dX11_shift_63 rfl (lv_at hl 0 rfl) ?_
                refine ux_get (D := (dC, dI)) (ci := 11) (v := .ref (ad 37)) (C := RX11) (T := TX11) (M := 13) (fs := (oSR ad (σ.1 0))) hx hb hts (fun _ h9 => List.mem_cons_of_mem _ (List.mem_append_left _ (List.mem_append_right _ h9))) hown hK hP 0 (Nat.lt_of_lt_of_le (Nat.le_of_ble_eq_true rfl : 0 < 182) (Nat.le_add_right _ _)) (cC_0 _ _ _ _ _) rfl 12 (by decide) (hts (.fieldLink RX11 98 "SeatsRound" "rows" "LSeatsRound$Rows;") (List.mem_of_getElem? (i := 1) rfl)) (fun _ h9 => h9) rfl dX11_shift_64 ?_
                refine ux_get (D := (dC, dI)) (ci := 7) (v := .ref (ad 39)) (C := RX7) (T := TX7) (M := 4) (fs := (oRW ad (σ.1 37))) hx hb hts (fun _ h9 => List.mem_cons_of_mem _ (List.mem_append_right _ h9)) hown hK hP 37 (Nat.lt_of_lt_of_le (Nat.le_of_ble_eq_true rfl : 37 < 182) (Nat.le_add_right _ _)) (cC_37 _ _ _ _ _) rfl 1 (by decide) (hts (.fieldLink RX11 371 "SeatsRound$Rows" "sort" "[I") (List.mem_of_getElem? (i := 2) rfl)) (fun _ h9 => h9) rfl dX11_shift_67 ?_
                refine lv_iload_n hx hb dX11_shift_70 rfl (lv_at hl 1 rfl) ?_
                refine ux_iald hx hb hK hP 39 0 (Nat.lt_of_lt_of_le (Nat.le_of_ble_eq_true rfl : 39 < 182) (Nat.le_add_right _ _)) (cC_39 _ _ _ _ _) rfl h dX11_shift_71 (fun v13 h => ?_)
                refine lv_aload_n hx hb dX11_shift_72 rfl (lv_at hl 0 rfl) ?_
                refine ux_get (D := (dC, dI)) (ci := 11) (v := .ref (ad 37)) (C := RX11) (T := TX11) (M := 13) (fs := (oSR ad (σ.1 0))) hx hb hts (fun _ h9 => List.mem_cons_of_mem _ (List.mem_append_left _ (List.mem_append_right _ h9))) hown hK hP 0 (Nat.lt_of_lt_of_le (Nat.le_of_ble_eq_true rfl : 0 < 182) (Nat.le_add_right _ _)) (cC_0 _ _ _ _ _) rfl 12 (by decide) (hts (.fieldLink RX11 98 "SeatsRound" "rows" "LSeatsRound$Rows;") (List.mem_of_getElem? (i := 1) rfl)) (fun _ h9 => h9) rfl dX11_shift_73 ?_
                refine ux_get (D := (dC, dI)) (ci := 7) (v := .ref (ad 39)) (C := RX7) (T := TX7) (M := 4) (fs := (oRW ad (σ.1 37))) hx hb hts (fun _ h9 => List.mem_cons_of_mem _ (List.mem_append_right _ h9)) hown hK hP 37 (Nat.lt_of_lt_of_le (Nat.le_of_ble_eq_true rfl : 37 < 182) (Nat.le_add_right _ _)) (cC_37 _ _ _ _ _) rfl 1 (by decide) (hts (.fieldLink RX11 371 "SeatsRound$Rows" "sort" "[I") (List.mem_of_getElem? (i := 2) rfl)) (fun _ h9 => h9) rfl dX11_shift_76 ?_
                refine lv_iload_n hx hb dX11_shift_79 rfl (lv_at hl 3 rfl) ?_
                refine ux_iald hx hb hK hP 39 0 (Nat.lt_of_lt_of_le (Nat.le_of_ble_eq_true rfl : 39 < 182) (Nat.le_add_right _ _)) (cC_39 _ _ _ _ _) rfl h dX11_shift_80 (fun v14 h => ?_)
                refine lv_icmp_eq (tgt := 87) hx hb dX11_shift_81 (by decide) (fun hcd => ?_) (fun hcd => ?_)
                · have h := cdP hcd h
                  refine lv_aload_n hx hb dX11_shift_87 rfl (lv_at hl 0 rfl) ?_
                  refine ux_get (D := (dC, dI)) (ci := 11) (v := .ref (ad 37)) (C := RX11) (T := TX11) (M := 13) (fs := (oSR ad (σ.1 0))) hx hb hts (fun _ h9 => List.mem_cons_of_mem _ (List.mem_append_left _ (List.mem_append_right _ h9))) hown hK hP 0 (Nat.lt_of_lt_of_le (Nat.le_of_ble_eq_true rfl : 0 < 182) (Nat.le_add_right _ _)) (cC_0 _ _ _ _ _) rfl 12 (by decide) (hts (.fieldLink RX11 98 "SeatsRound" "rows" "LSeatsRound$Rows;") (List.mem_of_getElem? (i := 1) rfl)) (fun _ h9 => h9) rfl dX11_shift_88 ?_
                  refine lv_iload_n hx hb dX11_shift_91 rfl (lv_at hl 1 rfl) ?_
                  refine lv_iload_n hx hb dX11_shift_92 rfl (lv_at hl 2 rfl) ?_
                  refine lv_iload hx hb dX11_shift_93 (lv_at hl 5 rfl) ?_
                  obtain ⟨r15, hf16, h⟩ := biS h
                  refine ux_calli (va_runV (As := [.int x1, .int x2, .int x5]) (rest := []) ⟨hx, hb, hml, hown, hts⟩ (tX7_spans l dC dI cy ad τ nb hτ σ x1 x2 x5 H.size r15 hf16) (cwV 3 hts gX11_shift_X7_spans rfl rfl rfl (by decide +kernel) ⟨Nat.le_of_ble_eq_true rfl, Nat.le_of_ble_eq_true rfl⟩) (wp_V hK hN hP hD (va_recv hK hP (ci := 7) (q0 := 37) rfl (wG_of (Nat.lt_of_lt_of_le (Nat.le_of_ble_eq_true rfl : 37 < 182) (Nat.le_add_right _ _)) (cC_37 _ _ _ _ _)))) rfl rfl hl.1 rfl (lv_room (Nat.le_of_ble_eq_true rfl)) dX11_shift_95 ⟨Nat.le_of_ble_eq_true rfl, Nat.le_of_ble_eq_true rfl⟩) hD hS hA (fun H locs hP hD hS => ?_)
                  refine lv_if_eq (tgt := 116) hx hb dX11_shift_98 (by decide) (fun hcd => ?_) (fun hcd => ?_)
                  · have h := cdP hcd h
                    refine lv_bipush (v := (-13)) hx hb dX11_shift_116 (by decide) ?_
                    exact ux_iret hx hb hr h hP hD hS hlocks dX11_shift_118
                  · have h := cdN hcd h
                    refine lv_aload_n hx hb dX11_shift_101 rfl (lv_at hl 0 rfl) ?_
                    refine ux_get (D := (dC, dI)) (ci := 11) (v := .ref (ad 37)) (C := RX11) (T := TX11) (M := 13) (fs := (oSR ad (σ.1 0))) hx hb hts (fun _ h9 => List.mem_cons_of_mem _ (List.mem_append_left _ (List.mem_append_right _ h9))) hown hK hP 0 (Nat.lt_of_lt_of_le (Nat.le_of_ble_eq_true rfl : 0 < 182) (Nat.le_add_right _ _)) (cC_0 _ _ _ _ _) rfl 12 (by decide) (hts (.fieldLink RX11 98 "SeatsRound" "rows" "LSeatsRound$Rows;") (List.mem_of_getElem? (i := 1) rfl)) (fun _ h9 => h9) rfl dX11_shift_102 ?_
                    refine lv_iload_n hx hb dX11_shift_105 rfl (lv_at hl 3 rfl) ?_
                    refine lv_iload hx hb dX11_shift_106 (lv_at hl 4 rfl) ?_
                    refine lv_iload hx hb dX11_shift_108 (lv_at hl 5 rfl) ?_
                    obtain ⟨r17, hf18, h⟩ := biS h
                    refine ux_calli (va_runV (As := [.int x3, .int x4, .int x5]) (rest := []) ⟨hx, hb, hml, hown, hts⟩ (tX7_spans l dC dI cy ad τ nb hτ σ x3 x4 x5 H.size r17 hf18) (cwV 3 hts gX11_shift_X7_spans rfl rfl rfl (by decide +kernel) ⟨Nat.le_of_ble_eq_true rfl, Nat.le_of_ble_eq_true rfl⟩) (wp_V hK hN hP hD (va_recv hK hP (ci := 7) (q0 := 37) rfl (wG_of (Nat.lt_of_lt_of_le (Nat.le_of_ble_eq_true rfl : 37 < 182) (Nat.le_add_right _ _)) (cC_37 _ _ _ _ _)))) rfl rfl hl.1 rfl (lv_room (Nat.le_of_ble_eq_true rfl)) dX11_shift_110 ⟨Nat.le_of_ble_eq_true rfl, Nat.le_of_ble_eq_true rfl⟩) hD hS hA (fun H locs hP hD hS => ?_)
                    refine lv_if_ne (tgt := 119) hx hb dX11_shift_113 (by decide) (fun hcd => ?_) (fun hcd => ?_)
                    · have h := cdN hcd h
                      refine lv_aload_n hx hb dX11_shift_119 rfl (lv_at hl 0 rfl) ?_
                      refine ux_get (D := (dC, dI)) (ci := 11) (v := .ref (ad 37)) (C := RX11) (T := TX11) (M := 13) (fs := (oSR ad (σ.1 0))) hx hb hts (fun _ h9 => List.mem_cons_of_mem _ (List.mem_append_left _ (List.mem_append_right _ h9))) hown hK hP 0 (Nat.lt_of_lt_of_le (Nat.le_of_ble_eq_true rfl : 0 < 182) (Nat.le_add_right _ _)) (cC_0 _ _ _ _ _) rfl 12 (by decide) (hts (.fieldLink RX11 98 "SeatsRound" "rows" "LSeatsRound$Rows;") (List.mem_of_getElem? (i := 1) rfl)) (fun _ h9 => h9) rfl dX11_shift_120 ?_
                      refine ux_get (D := (dC, dI)) (ci := 7) (v := .ref (ad 41)) (C := RX7) (T := TX7) (M := 4) (fs := (oRW ad (σ.1 37))) hx hb hts (fun _ h9 => List.mem_cons_of_mem _ (List.mem_append_right _ h9)) hown hK hP 37 (Nat.lt_of_lt_of_le (Nat.le_of_ble_eq_true rfl : 37 < 182) (Nat.le_add_right _ _)) (cC_37 _ _ _ _ _) rfl 3 (by decide) (hts (.fieldLink RX11 367 "SeatsRound$Rows" "elements" "[[J") (List.mem_of_getElem? (i := 3) rfl)) (fun _ h9 => h9) rfl dX11_shift_123 ?_
                      refine lv_iload_n hx hb dX11_shift_126 rfl (lv_at hl 1 rfl) ?_
                      obtain ⟨hii19, h⟩ := ckS h
                      have hri19 := vp_lt hii19
                      refine vz_aldg hx hb hK hP 41 7 (wG_of (Nat.lt_of_lt_of_le (Nat.le_of_ble_eq_true rfl : 41 < 182) (Nat.le_add_right _ _)) (cC_41 _ _ _ _ _)) rfl hii19 (if_pos hri19) dX11_shift_127 ?_
                      refine lv_iload_n hx hb dX11_shift_128 rfl (lv_at hl 2 rfl) ?_
                      refine lv_aload_n hx hb dX11_shift_129 rfl (lv_at hl 0 rfl) ?_
                      refine ux_get (D := (dC, dI)) (ci := 11) (v := .ref (ad 37)) (C := RX11) (T := TX11) (M := 13) (fs := (oSR ad (σ.1 0))) hx hb hts (fun _ h9 => List.mem_cons_of_mem _ (List.mem_append_left _ (List.mem_append_right _ h9))) hown hK hP 0 (Nat.lt_of_lt_of_le (Nat.le_of_ble_eq_true rfl : 0 < 182) (Nat.le_add_right _ _)) (cC_0 _ _ _ _ _) rfl 12 (by decide) (hts (.fieldLink RX11 98 "SeatsRound" "rows" "LSeatsRound$Rows;") (List.mem_of_getElem? (i := 1) rfl)) (fun _ h9 => h9) rfl dX11_shift_130 ?_
                      refine ux_get (D := (dC, dI)) (ci := 7) (v := .ref (ad 41)) (C := RX7) (T := TX7) (M := 4) (fs := (oRW ad (σ.1 37))) hx hb hts (fun _ h9 => List.mem_cons_of_mem _ (List.mem_append_right _ h9)) hown hK hP 37 (Nat.lt_of_lt_of_le (Nat.le_of_ble_eq_true rfl : 37 < 182) (Nat.le_add_right _ _)) (cC_37 _ _ _ _ _) rfl 3 (by decide) (hts (.fieldLink RX11 367 "SeatsRound$Rows" "elements" "[[J") (List.mem_of_getElem? (i := 3) rfl)) (fun _ h9 => h9) rfl dX11_shift_133 ?_
                      refine lv_iload_n hx hb dX11_shift_136 rfl (lv_at hl 3 rfl) ?_
                      obtain ⟨hii20, h⟩ := ckS h
                      have hri20 := vp_lt hii20
                      refine vz_aldg hx hb hK hP 41 7 (wG_of (Nat.lt_of_lt_of_le (Nat.le_of_ble_eq_true rfl : 41 < 182) (Nat.le_add_right _ _)) (cC_41 _ _ _ _ _)) rfl hii20 (if_pos hri20) dX11_shift_137 ?_
                      refine lv_iload hx hb dX11_shift_138 (lv_at hl 4 rfl) ?_
                      refine lv_iload hx hb dX11_shift_140 (lv_at hl 5 rfl) ?_
                      refine ux_copyl hx hb (hml.trans hl.1.symm) hown (hts (.methodLink RX11 392 arraycopyName) (List.mem_of_getElem? (i := 4) rfl)) (hts (.native arraycopyName) (List.mem_of_getElem? (i := 5) rfl)) (hts (.static arraycopyName) (List.mem_of_getElem? (i := 6) rfl)) (hts (.initialized "java/lang/System") (List.mem_of_getElem? (i := 7) rfl)) hK hP hD hS (176 + Int32.toNatClampNeg x1) (176 + Int32.toNatClampNeg x3) 4 (by omega) (by omega) (cC_r7 _ _ _ _ _ _ (by omega)) (fun _ => (cC_r7 _ _ _ _ _ _ (by omega))) rfl h (Nat.le_of_ble_eq_true rfl) (Nat.le_of_ble_eq_true rfl) dX11_shift_142 (fun σ21 H locs h hP hD hS => ?_)
                      refine lv_iload hx hb dX11_shift_145 (lv_at hl 5 rfl) ?_
                      exact ux_iret hx hb hr h hP hD hS hlocks dX11_shift_147
                    · have h := cdP hcd h
                      refine lv_bipush (v := (-13)) hx hb dX11_shift_116 (by decide) ?_
                      exact ux_iret hx hb hr h hP hD hS hlocks dX11_shift_118
                · have h := cdN hcd h
                  refine lv_bipush (v := (-12)) hx hb dX11_shift_84 (by decide) ?_
                  exact ux_iret hx hb hr h hP hD hS hlocks dX11_shift_86
          · have h := cdN hcd h
            refine lv_bipush (v := (-11)) hx hb dX11_shift_38 (by decide) ?_
            exact ux_iret hx hb hr h hP hD hS hlocks dX11_shift_40
      · have h := cdP hcd h
        refine lv_iconst (v := (-1)) hx hb dX11_shift_14 (by decide) ?_
        exact ux_iret hx hb hr h hP hD hS hlocks dX11_shift_15
  intro H locs ls h hP hD hS hl
  exact w0 σ a1 a2 a3 a4 a5 H locs ls h hP hD hS (lv_sub hl [0, 1, 2, 3, 4, 5] rfl)

set_option maxHeartbeats 4000000 in
set_option maxRecDepth 100000 in
theorem tX11_isUnder (l : Launch) (dC : Nat → ClassId) (dI : Nat → Nat → Nat) (cy : Nat → ClassId) (ad : Nat → Nat) (t : Nat) (τ nb : Nat) (hτ : τ < nb) (σ : S2) (a0 : Int32) (a1 : Int32) (sz : Nat) (r0 : Int32) (h : fX11_isUnder τ σ a0 a1 = some r0) : Met l yX11_isUnder wsX11_isUnder ({ frames := 1, cells := 0, slots := 0, locals := 23 }) (va_Pc [.int a0, .int a1] (fun U => wPre (dC, dI) cy (wG (cC cy ad τ) ad (182 + 6 * nb) σ) sz U ∧ kaP t (va_A (wG (cC cy ad τ) ad (182 + 6 * nb) σ) sz) U)) (va_Qi (fun (r : Int32) (_ : Unit) => r = r0) (fun (_ : Unit) t => wAt (dC, dI) (va_A (wG (cC cy ad τ) ad (182 + 6 * nb) σ) sz) (wG (cC cy ad τ) ad (182 + 6 * nb) σ) t) (va_A (wG (cC cy ad τ) ad (182 + 6 * nb) σ) sz)) 0 0 (va_A (wG (cC cy ad τ) ad (182 + 6 * nb) σ) sz) := by
  refine Met.ofW (cc := cX11_isUnder) (maxL := 4) (ret := (some .boolean)) (by decide) rfl ?_
  intro p e s m args below meth c s₁ B hml hv
  obtain ⟨rfl, ⟨hsz, hP, hK, hD0, hN⟩, hZ, hT⟩ := hv
  have hx := B.exec
  have hb := B.bytes
  have hr := B.returns
  have hts := atoms_spec (ws := wsX11_isUnder) B.pre
  have hown : s.vm.findClass RX11 = some m.cls := findClass_of_methodNamed B.named
  have hlocks := B.notSynchronized
  subst hsz
  have hD := hD0.self (sz := s.heap.size)
  generalize hAe : va_A (wG (cC cy ad τ) ad (182 + 6 * nb) σ) s.heap.size = A at hD hZ hT ⊢
  have hA : ∀ q : Nat, s.heap.size ≤ q → A q := fun q h => by rw [← hAe]; exact Or.inr h
  have hS : va_S A s.heap s.heap [] := va_S.rf
  have hl := lv_entry ([.int a0, .int a1]) (n := 4) (Nat.le_of_ble_eq_true rfl)
  rw [lg_entry_eq]
  generalize (lg_sl ([.int a0, .int a1]) ++ List.replicate (4 - (lg_sl ([.int a0, .int a1])).length) Slot.unset).toArray = ls at hl ⊢
  have hl : lv_has ls 4 [(0, .int a0), (1, .int a1)] := hl
  unfold fX11_isUnder at h
  clear hAe hD0
  suffices HH : ∀ (H : Heap) (locs : List Loc) (ls : Array Slot), fX11_isUnder_0 τ σ a0 a1 = some r0 → va_P (dC, dI) vwCl (wG (cC cy ad τ) ad (182 + 6 * nb) σ) H → va_D A (wG (cC cy ad τ) ad (182 + 6 * nb) σ) → va_S A s.heap H locs → lv_has ls 4 [(0, .int a0), (1, .int a1)] → W p l e (headSpec wsX11_isUnder ({ frames := 1, cells := 0, slots := 0, locals := 23 })).room s m (#[.int a0, .int a1]) below meth c H locs 0 0 (MQ below (va_Qi (fun (r : Int32) (_ : Unit) => r = r0) (fun (_ : Unit) t => wAt (dC, dI) A (wG (cC cy ad τ) ad (182 + 6 * nb) σ) t) A) (#[.int a0, .int a1]) s 0 0 A) (F0 m 0 ls []) from HH s.heap [] ls h hP hD hS hl
  have w4 : ∀ (n : Nat), ∀ (σ : S2) (x1 : Int32) (x2 : Int32) (x3 : Int32) (H : Heap) (locs : List Loc) (ls : Array Slot), fX11_isUnder_4 τ n σ x1 x2 x3 = some r0 → va_P (dC, dI) vwCl (wG (cC cy ad τ) ad (182 + 6 * nb) σ) H → va_D A (wG (cC cy ad τ) ad (182 + 6 * nb) σ) → va_S A s.heap H locs → lv_has ls 4 [(1, .int x1), (2, .int x2), (3, .int x3)] → W p l e (headSpec wsX11_isUnder ({ frames := 1, cells := 0, slots := 0, locals := 23 })).room s m (#[.int a0, .int a1]) below meth c H locs 0 0 (MQ below (va_Qi (fun (r : Int32) (_ : Unit) => r = r0) (fun (_ : Unit) t => wAt (dC, dI) A (wG (cC cy ad τ) ad (182 + 6 * nb) σ) t) A) (#[.int a0, .int a1]) s 0 0 A) (F0 m 4 ls []) := by
    intro n
    induction n with
    | zero => intro σ x1 x2 x3 H locs ls h; cases h
    | succ n ih =>
    intro σ x1 x2 x3 H locs ls h hP hD hS hl
    unfold fX11_isUnder_4 at h
    refine lv_iload_n hx hb dX11_isUnder_4 rfl (lv_at hl 2 rfl) ?_
    refine va_gets hx hb hZ hS hown (hts (.fieldLink RX11 420 "SeatsRound" "KIND_ABOVE" "[I") (List.mem_of_getElem? (i := 1) rfl)) (fun _ h9 => h9) dX11_isUnder_5 ?_
    refine va_tlen hx hb hT hS (v := 7) rfl dX11_isUnder_8 ?_
    refine lv_icmp_ge (tgt := 43) hx hb dX11_isUnder_9 (by decide) (fun hcd => ?_) (fun hcd => ?_)
    · have h := cdP hcd h
      refine lv_iconst (v := 0) hx hb dX11_isUnder_43 (by decide) ?_
      exact ux_zretP hx hb hr rfl h hP hD hS hlocks dX11_isUnder_44
    · have h := cdN hcd h
      refine lv_iload_n hx hb dX11_isUnder_12 rfl (lv_at hl 1 rfl) ?_
      refine lv_if_lt (tgt := 43) hx hb dX11_isUnder_13 (by decide) (fun hcd => ?_) (fun hcd => ?_)
      · have h := cdP hcd h
        refine lv_iconst (v := 0) hx hb dX11_isUnder_43 (by decide) ?_
        exact ux_zretP hx hb hr rfl h hP hD hS hlocks dX11_isUnder_44
      · have h := cdN hcd h
        refine lv_iload_n hx hb dX11_isUnder_16 rfl (lv_at hl 1 rfl) ?_
        refine va_gets hx hb hZ hS hown (hts (.fieldLink RX11 420 "SeatsRound" "KIND_ABOVE" "[I") (List.mem_of_getElem? (i := 1) rfl)) (fun _ h9 => h9) dX11_isUnder_17 ?_
        refine va_tlen hx hb hT hS (v := 7) rfl dX11_isUnder_20 ?_
        refine lv_icmp_ge (tgt := 43) hx hb dX11_isUnder_21 (by decide) (fun hcd => ?_) (fun hcd => ?_)
        · have h := cdP hcd h
          refine lv_iconst (v := 0) hx hb dX11_isUnder_43 (by decide) ?_
          exact ux_zretP hx hb hr rfl h hP hD hS hlocks dX11_isUnder_44
        · have h := cdN hcd h
          refine lv_iload_n hx hb dX11_isUnder_24 rfl (lv_at hl 1 rfl) ?_
          refine lv_iload_n hx hb dX11_isUnder_25 rfl (lv_at hl 0 rfl) ?_
          refine lv_icmp_ne (tgt := 31) hx hb dX11_isUnder_26 (by decide) (fun hcd => ?_) (fun hcd => ?_)
          · have h := cdN hcd h
            refine va_gets hx hb hZ hS hown (hts (.fieldLink RX11 420 "SeatsRound" "KIND_ABOVE" "[I") (List.mem_of_getElem? (i := 1) rfl)) (fun _ h9 => h9) dX11_isUnder_31 ?_
            refine lv_iload_n hx hb dX11_isUnder_34 rfl (lv_at hl 1 rfl) ?_
            refine ux_ti hx hb hT hS h dX11_isUnder_35 (fun v1 h => ?_)
            refine lv_istore_n (lv' := [(2, .int v1), (1, .int x1), (3, .int x3)]) hx hb dX11_isUnder_36 rfl hl (by decide) rfl (fun ls hl => ?_)
            have hl := lv_sub hl [1, 0, 2] (l' := [(1, .int x1), (2, .int v1), (3, .int x3)]) rfl
            obtain ⟨v2, ev2⟩ : ∃ y : Int32, y = x3 + 1 := ⟨_, rfl⟩
            have h := nmS h ev2
            refine lv_iinc (v := v2) (lv' := [(3, .int v2), (1, .int x1), (2, .int v1)]) hx hb dX11_isUnder_37 hl (k := 2) rfl (by rw [ev2]; rfl) (by decide) rfl (fun ls hl => ?_)
            have hl := lv_sub hl [1, 2, 0] (l' := [(1, .int x1), (2, .int v1), (3, .int v2)]) rfl
            refine lv_goto (tgt := 4) hx hb dX11_isUnder_40 (by decide) ?_
            exact ih σ x1 v1 v2 H locs ls h hP hD hS hl
          · have h := cdP hcd h
            refine lv_iconst (v := 1) hx hb dX11_isUnder_29 (by decide) ?_
            exact ux_zretP hx hb hr rfl h hP hD hS hlocks dX11_isUnder_30
  have w0 : ∀ (σ : S2) (x0 : Int32) (x1 : Int32) (H : Heap) (locs : List Loc) (ls : Array Slot), fX11_isUnder_0 τ σ x0 x1 = some r0 → va_P (dC, dI) vwCl (wG (cC cy ad τ) ad (182 + 6 * nb) σ) H → va_D A (wG (cC cy ad τ) ad (182 + 6 * nb) σ) → va_S A s.heap H locs → lv_has ls 4 [(0, .int x0), (1, .int x1)] → W p l e (headSpec wsX11_isUnder ({ frames := 1, cells := 0, slots := 0, locals := 23 })).room s m (#[.int a0, .int a1]) below meth c H locs 0 0 (MQ below (va_Qi (fun (r : Int32) (_ : Unit) => r = r0) (fun (_ : Unit) t => wAt (dC, dI) A (wG (cC cy ad τ) ad (182 + 6 * nb) σ) t) A) (#[.int a0, .int a1]) s 0 0 A) (F0 m 0 ls []) := by
    intro σ x0 x1 H locs ls h hP hD hS hl
    unfold fX11_isUnder_0 at h
    refine lv_iload_n hx hb dX11_isUnder_0 rfl (lv_at hl 0 rfl) ?_
    refine lv_istore_n (lv' := [(2, .int x0), (0, .int x0), (1, .int x1)]) hx hb dX11_isUnder_1 rfl hl (by decide) rfl (fun ls hl => ?_)
    have hl := lv_sub hl [1, 2, 0] (l' := [(0, .int x0), (1, .int x1), (2, .int x0)]) rfl
    refine lv_iconst (v := 0) hx hb dX11_isUnder_2 (by decide) ?_
    refine lv_istore_n (lv' := [(3, .int 0), (0, .int x0), (1, .int x1), (2, .int x0)]) hx hb dX11_isUnder_3 rfl hl (by decide) rfl (fun ls hl => ?_)
    have hl := lv_sub hl [1, 2, 3, 0] (l' := [(0, .int x0), (1, .int x1), (2, .int x0), (3, .int 0)]) rfl
    exact w4 FU σ x1 x0 0 H locs ls h hP hD hS (lv_sub hl [1, 2, 3] rfl)
  intro H locs ls h hP hD hS hl
  exact w0 σ a0 a1 H locs ls h hP hD hS (lv_sub hl [0, 1] rfl)

set_option maxHeartbeats 4000000 in
set_option maxRecDepth 100000 in
theorem tX11_taken (l : Launch) (dC : Nat → ClassId) (dI : Nat → Nat → Nat) (cy : Nat → ClassId) (ad : Nat → Nat) (t : Nat) (τ nb : Nat) (hτ : τ < nb) (σ : S2) (a1 : Int32) (a2 : Int32) (sz : Nat) (r0 : Int32) (h : fX11_taken τ σ a1 a2 = some r0) : Met l yX11_taken wsX11_taken ({ frames := 2, cells := 0, slots := 0, locals := 46 }) (va_Pc [.ref (ad 0), .int a1, .int a2] (fun U => wPre (dC, dI) cy (wG (cC cy ad τ) ad (182 + 6 * nb) σ) sz U ∧ kaP t (va_A (wG (cC cy ad τ) ad (182 + 6 * nb) σ) sz) U)) (va_Qi (fun (r : Int32) (_ : Unit) => r = r0) (fun (_ : Unit) t => wAt (dC, dI) (va_A (wG (cC cy ad τ) ad (182 + 6 * nb) σ) sz) (wG (cC cy ad τ) ad (182 + 6 * nb) σ) t) (va_A (wG (cC cy ad τ) ad (182 + 6 * nb) σ) sz)) 0 0 (va_A (wG (cC cy ad τ) ad (182 + 6 * nb) σ) sz) := by
  refine Met.ofW (cc := cX11_taken) (maxL := 5) (ret := (some .int)) (by decide) rfl ?_
  intro p e s m args below meth c s₁ B hml hv
  obtain ⟨rfl, ⟨hsz, hP, hK, hD0, hN⟩, hZ, hT⟩ := hv
  have hx := B.exec
  have hb := B.bytes
  have hr := B.returns
  have hts := atoms_spec (ws := wsX11_taken) B.pre
  have hown : s.vm.findClass RX11 = some m.cls := findClass_of_methodNamed B.named
  have hlocks := B.notSynchronized
  subst hsz
  have hD := hD0.self (sz := s.heap.size)
  generalize hAe : va_A (wG (cC cy ad τ) ad (182 + 6 * nb) σ) s.heap.size = A at hD hZ hT ⊢
  have hA : ∀ q : Nat, s.heap.size ≤ q → A q := fun q h => by rw [← hAe]; exact Or.inr h
  have hS : va_S A s.heap s.heap [] := va_S.rf
  have hl := lv_entry ([.ref (ad 0), .int a1, .int a2]) (n := 5) (Nat.le_of_ble_eq_true rfl)
  rw [lg_entry_eq]
  generalize (lg_sl ([.ref (ad 0), .int a1, .int a2]) ++ List.replicate (5 - (lg_sl ([.ref (ad 0), .int a1, .int a2])).length) Slot.unset).toArray = ls at hl ⊢
  have hl : lv_has ls 5 [(0, .ref (ad 0)), (1, .int a1), (2, .int a2)] := hl
  unfold fX11_taken at h
  clear hAe hD0
  suffices HH : ∀ (H : Heap) (locs : List Loc) (ls : Array Slot), fX11_taken_0 τ σ a1 a2 = some r0 → va_P (dC, dI) vwCl (wG (cC cy ad τ) ad (182 + 6 * nb) σ) H → va_D A (wG (cC cy ad τ) ad (182 + 6 * nb) σ) → va_S A s.heap H locs → lv_has ls 5 [(0, .ref (ad 0)), (1, .int a1), (2, .int a2)] → W p l e (headSpec wsX11_taken ({ frames := 2, cells := 0, slots := 0, locals := 46 })).room s m (#[.ref (ad 0), .int a1, .int a2]) below meth c H locs 0 0 (MQ below (va_Qi (fun (r : Int32) (_ : Unit) => r = r0) (fun (_ : Unit) t => wAt (dC, dI) A (wG (cC cy ad τ) ad (182 + 6 * nb) σ) t) A) (#[.ref (ad 0), .int a1, .int a2]) s 0 0 A) (F0 m 0 ls []) from HH s.heap [] ls h hP hD hS hl
  have w0 : ∀ (σ : S2) (x1 : Int32) (x2 : Int32) (H : Heap) (locs : List Loc) (ls : Array Slot), fX11_taken_0 τ σ x1 x2 = some r0 → va_P (dC, dI) vwCl (wG (cC cy ad τ) ad (182 + 6 * nb) σ) H → va_D A (wG (cC cy ad τ) ad (182 + 6 * nb) σ) → va_S A s.heap H locs → lv_has ls 5 [(0, .ref (ad 0)), (1, .int x1), (2, .int x2)] → W p l e (headSpec wsX11_taken ({ frames := 2, cells := 0, slots := 0, locals := 46 })).room s m (#[.ref (ad 0), .int a1, .int a2]) below meth c H locs 0 0 (MQ below (va_Qi (fun (r : Int32) (_ : Unit) => r = r0) (fun (_ : Unit) t => wAt (dC, dI) A (wG (cC cy ad τ) ad (182 + 6 * nb) σ) t) A) (#[.ref (ad 0), .int a1, .int a2]) s 0 0 A) (F0 m 0 ls []) := by
    intro σ x1 x2 H locs ls h hP hD hS hl
    unfold fX11_taken_0 at h
    refine lv_iload_n hx hb dX11_taken_0 rfl (lv_at hl 1 rfl) ?_
    obtain ⟨r1, hf2, h⟩ := biS h
    refine ux_calli (va_runS (As := [.int x1]) (rest := []) ⟨hx, hb, hml, hown, hts⟩ (tX11_isShelf l dC dI cy ad τ nb hτ σ x1 H.size r1 hf2) (va_cwS 1 hts gX11_taken_X11_isShelf rfl rfl rfl (by decide +kernel) ⟨Nat.le_of_ble_eq_true rfl, Nat.le_of_ble_eq_true rfl⟩) (wp_S hK hN hP hD) rfl rfl hl.1 rfl (lv_room (Nat.le_of_ble_eq_true rfl)) dX11_taken_1 ⟨Nat.le_of_ble_eq_true rfl, Nat.le_of_ble_eq_true rfl⟩) hD hS hA (fun H locs hP hD hS => ?_)
    refine lv_if_eq (tgt := 14) hx hb dX11_taken_4 (by decide) (fun hcd => ?_) (fun hcd => ?_)
    · have h := cdP hcd h
      refine lv_iconst (v := (-1)) hx hb dX11_taken_14 (by decide) ?_
      exact ux_iretP hx hb hr h hP hD hS hlocks dX11_taken_15
    · have h := cdN hcd h
      refine lv_iload_n hx hb dX11_taken_7 rfl (lv_at hl 2 rfl) ?_
      obtain ⟨r3, hf4, h⟩ := biS h
      refine ux_calli (va_runS (As := [.int x2]) (rest := []) ⟨hx, hb, hml, hown, hts⟩ (tX11_isKind l dC dI cy ad τ nb hτ σ x2 H.size r3 hf4) (va_cwS 1 hts gX11_taken_X11_isKind rfl rfl rfl (by decide +kernel) ⟨Nat.le_of_ble_eq_true rfl, Nat.le_of_ble_eq_true rfl⟩) (wp_S hK hN hP hD) rfl rfl hl.1 rfl (lv_room (Nat.le_of_ble_eq_true rfl)) dX11_taken_8 ⟨Nat.le_of_ble_eq_true rfl, Nat.le_of_ble_eq_true rfl⟩) hD hS hA (fun H locs hP hD hS => ?_)
      refine lv_if_ne (tgt := 16) hx hb dX11_taken_11 (by decide) (fun hcd => ?_) (fun hcd => ?_)
      · have h := cdN hcd h
        refine lv_aload_n hx hb dX11_taken_16 rfl (lv_at hl 0 rfl) ?_
        refine ux_get (D := (dC, dI)) (ci := 11) (v := .ref (ad 37)) (C := RX11) (T := TX11) (M := 13) (fs := (oSR ad (σ.1 0))) hx hb hts (fun _ h9 => List.mem_cons_of_mem _ (List.mem_append_left _ (List.mem_append_left _ (List.mem_append_right _ h9)))) hown hK hP 0 (Nat.lt_of_lt_of_le (Nat.le_of_ble_eq_true rfl : 0 < 182) (Nat.le_add_right _ _)) (cC_0 _ _ _ _ _) rfl 12 (by decide) (hts (.fieldLink RX11 98 "SeatsRound" "rows" "LSeatsRound$Rows;") (List.mem_of_getElem? (i := 1) rfl)) (fun _ h9 => h9) rfl dX11_taken_17 ?_
        refine lv_iload_n hx hb dX11_taken_20 rfl (lv_at hl 1 rfl) ?_
        obtain ⟨r5, hf6, h⟩ := biS h
        refine ux_calli (va_runV (As := [.int x1]) (rest := []) ⟨hx, hb, hml, hown, hts⟩ (tX7_isEmpty l dC dI cy ad τ nb hτ σ x1 H.size r5 hf6) (cwV 1 hts gX11_taken_X7_isEmpty rfl rfl rfl (by decide +kernel) ⟨Nat.le_of_ble_eq_true rfl, Nat.le_of_ble_eq_true rfl⟩) (wp_V hK hN hP hD (va_recv hK hP (ci := 7) (q0 := 37) rfl (wG_of (Nat.lt_of_lt_of_le (Nat.le_of_ble_eq_true rfl : 37 < 182) (Nat.le_add_right _ _)) (cC_37 _ _ _ _ _)))) rfl rfl hl.1 rfl (lv_room (Nat.le_of_ble_eq_true rfl)) dX11_taken_21 ⟨Nat.le_of_ble_eq_true rfl, Nat.le_of_ble_eq_true rfl⟩) hD hS hA (fun H locs hP hD hS => ?_)
        refine lv_if_eq (tgt := 30) hx hb dX11_taken_24 (by decide) (fun hcd => ?_) (fun hcd => ?_)
        · have h := cdP hcd h
          refine lv_aload_n hx hb dX11_taken_30 rfl (lv_at hl 0 rfl) ?_
          refine ux_get (D := (dC, dI)) (ci := 11) (v := .ref (ad 37)) (C := RX11) (T := TX11) (M := 13) (fs := (oSR ad (σ.1 0))) hx hb hts (fun _ h9 => List.mem_cons_of_mem _ (List.mem_append_left _ (List.mem_append_left _ (List.mem_append_right _ h9)))) hown hK hP 0 (Nat.lt_of_lt_of_le (Nat.le_of_ble_eq_true rfl : 0 < 182) (Nat.le_add_right _ _)) (cC_0 _ _ _ _ _) rfl 12 (by decide) (hts (.fieldLink RX11 98 "SeatsRound" "rows" "LSeatsRound$Rows;") (List.mem_of_getElem? (i := 1) rfl)) (fun _ h9 => h9) rfl dX11_taken_31 ?_
          refine ux_get (D := (dC, dI)) (ci := 7) (v := .ref (ad 38)) (C := RX7) (T := TX7) (M := 4) (fs := (oRW ad (σ.1 37))) hx hb hts (fun _ h9 => List.mem_cons_of_mem _ (List.mem_append_left _ (List.mem_append_right _ h9))) hown hK hP 37 (Nat.lt_of_lt_of_le (Nat.le_of_ble_eq_true rfl : 37 < 182) (Nat.le_add_right _ _)) (cC_37 _ _ _ _ _) rfl 0 (by decide) (hts (.fieldLink RX11 398 "SeatsRound$Rows" "keeper" "[I") (List.mem_of_getElem? (i := 2) rfl)) (fun _ h9 => h9) rfl dX11_taken_34 ?_
          refine lv_iload_n hx hb dX11_taken_37 rfl (lv_at hl 1 rfl) ?_
          refine ux_iald hx hb hK hP 38 0 (Nat.lt_of_lt_of_le (Nat.le_of_ble_eq_true rfl : 38 < 182) (Nat.le_add_right _ _)) (cC_38 _ _ _ _ _) rfl h dX11_taken_38 (fun v7 h => ?_)
          refine lv_istore_n (lv' := [(3, .int v7), (0, .ref (ad 0)), (1, .int x1), (2, .int x2)]) hx hb dX11_taken_39 rfl hl (by decide) rfl (fun ls hl => ?_)
          have hl := lv_sub hl [1, 2, 3, 0] (l' := [(0, .ref (ad 0)), (1, .int x1), (2, .int x2), (3, .int v7)]) rfl
          refine lv_aload_n hx hb dX11_taken_40 rfl (lv_at hl 0 rfl) ?_
          refine ux_get (D := (dC, dI)) (ci := 11) (v := .ref (ad 7)) (C := RX11) (T := TX11) (M := 13) (fs := (oSR ad (σ.1 0))) hx hb hts (fun _ h9 => List.mem_cons_of_mem _ (List.mem_append_left _ (List.mem_append_left _ (List.mem_append_right _ h9)))) hown hK hP 0 (Nat.lt_of_lt_of_le (Nat.le_of_ble_eq_true rfl : 0 < 182) (Nat.le_add_right _ _)) (cC_0 _ _ _ _ _) rfl 2 (by decide) (hts (.fieldLink RX11 26 "SeatsRound" "keepers" "LSeatsRound$Keepers;") (List.mem_of_getElem? (i := 3) rfl)) (fun _ h9 => h9) rfl dX11_taken_41 ?_
          refine lv_iload_n hx hb dX11_taken_44 rfl (lv_at hl 3 rfl) ?_
          obtain ⟨r8, hf9, h⟩ := biS h
          refine ux_calli (va_runV (As := [.int v7]) (rest := []) ⟨hx, hb, hml, hown, hts⟩ (tX2_has l dC dI cy ad τ nb hτ σ v7 H.size r8 hf9) (cwV 1 hts gX11_taken_X2_has rfl rfl rfl (by decide +kernel) ⟨Nat.le_of_ble_eq_true rfl, Nat.le_of_ble_eq_true rfl⟩) (wp_V hK hN hP hD (va_recv hK hP (ci := 2) (q0 := 7) rfl (wG_of (Nat.lt_of_lt_of_le (Nat.le_of_ble_eq_true rfl : 7 < 182) (Nat.le_add_right _ _)) (cC_7 _ _ _ _ _)))) rfl rfl hl.1 rfl (lv_room (Nat.le_of_ble_eq_true rfl)) dX11_taken_45 ⟨Nat.le_of_ble_eq_true rfl, Nat.le_of_ble_eq_true rfl⟩) hD hS hA (fun H locs hP hD hS => ?_)
          refine lv_if_ne (tgt := 54) hx hb dX11_taken_48 (by decide) (fun hcd => ?_) (fun hcd => ?_)
          · have h := cdN hcd h
            refine lv_aload_n hx hb dX11_taken_54 rfl (lv_at hl 0 rfl) ?_
            refine ux_get (D := (dC, dI)) (ci := 11) (v := .ref (ad 7)) (C := RX11) (T := TX11) (M := 13) (fs := (oSR ad (σ.1 0))) hx hb hts (fun _ h9 => List.mem_cons_of_mem _ (List.mem_append_left _ (List.mem_append_left _ (List.mem_append_right _ h9)))) hown hK hP 0 (Nat.lt_of_lt_of_le (Nat.le_of_ble_eq_true rfl : 0 < 182) (Nat.le_add_right _ _)) (cC_0 _ _ _ _ _) rfl 2 (by decide) (hts (.fieldLink RX11 26 "SeatsRound" "keepers" "LSeatsRound$Keepers;") (List.mem_of_getElem? (i := 3) rfl)) (fun _ h9 => h9) rfl dX11_taken_55 ?_
            refine ux_get (D := (dC, dI)) (ci := 2) (v := .ref (ad 8)) (C := RX2) (T := TX2) (M := 6) (fs := (oKP ad (σ.1 7))) hx hb hts (fun _ h9 => List.mem_cons_of_mem _ (List.mem_append_right _ h9)) hown hK hP 7 (Nat.lt_of_lt_of_le (Nat.le_of_ble_eq_true rfl : 7 < 182) (Nat.le_add_right _ _)) (cC_7 _ _ _ _ _) rfl 0 (by decide) (hts (.fieldLink RX11 141 "SeatsRound$Keepers" "kind" "[I") (List.mem_of_getElem? (i := 4) rfl)) (fun _ h9 => h9) rfl dX11_taken_58 ?_
            refine lv_iload_n hx hb dX11_taken_61 rfl (lv_at hl 3 rfl) ?_
            refine ux_iald hx hb hK hP 8 0 (Nat.lt_of_lt_of_le (Nat.le_of_ble_eq_true rfl : 8 < 182) (Nat.le_add_right _ _)) (cC_8 _ _ _ _ _) rfl h dX11_taken_62 (fun v10 h => ?_)
            refine lv_istore (lv' := [(4, .int v10), (0, .ref (ad 0)), (1, .int x1), (2, .int x2), (3, .int v7)]) hx hb dX11_taken_63 hl (by decide) rfl (fun ls hl => ?_)
            have hl := lv_sub hl [1, 2, 3, 4, 0] (l' := [(0, .ref (ad 0)), (1, .int x1), (2, .int x2), (3, .int v7), (4, .int v10)]) rfl
            refine lv_iload hx hb dX11_taken_65 (lv_at hl 4 rfl) ?_
            refine lv_iload_n hx hb dX11_taken_67 rfl (lv_at hl 2 rfl) ?_
            obtain ⟨r11, hf12, h⟩ := biS h
            refine ux_calli (va_runS (As := [.int v10, .int x2]) (rest := []) ⟨hx, hb, hml, hown, hts⟩ (tX11_isUnder l dC dI cy ad t τ nb hτ σ v10 x2 H.size r11 hf12) (va_cwS 2 hts gX11_taken_X11_isUnder rfl rfl rfl (by decide +kernel) ⟨Nat.le_of_ble_eq_true rfl, Nat.le_of_ble_eq_true rfl⟩) (wp_SK hK hN hP hD hZ hT hS (fr_A hD hS hA)) rfl rfl hl.1 rfl (lv_room (Nat.le_of_ble_eq_true rfl)) dX11_taken_68 ⟨Nat.le_of_ble_eq_true rfl, Nat.le_of_ble_eq_true rfl⟩) hD hS hA (fun H locs hP hD hS => ?_)
            refine lv_if_eq (tgt := 79) hx hb dX11_taken_71 (by decide) (fun hcd => ?_) (fun hcd => ?_)
            · have h := cdP hcd h
              refine lv_bipush (v := (-12)) hx hb dX11_taken_79 (by decide) ?_
              exact ux_iretP hx hb hr h hP hD hS hlocks dX11_taken_81
            · have h := cdN hcd h
              refine lv_iload hx hb dX11_taken_74 (lv_at hl 4 rfl) ?_
              refine lv_goto (tgt := 81) hx hb dX11_taken_76 (by decide) ?_
              exact ux_iretP hx hb hr h hP hD hS hlocks dX11_taken_81
          · have h := cdP hcd h
            refine lv_bipush (v := (-12)) hx hb dX11_taken_51 (by decide) ?_
            exact ux_iretP hx hb hr h hP hD hS hlocks dX11_taken_53
        · have h := cdN hcd h
          refine lv_bipush (v := (-11)) hx hb dX11_taken_27 (by decide) ?_
          exact ux_iretP hx hb hr h hP hD hS hlocks dX11_taken_29
      · have h := cdP hcd h
        refine lv_iconst (v := (-1)) hx hb dX11_taken_14 (by decide) ?_
        exact ux_iretP hx hb hr h hP hD hS hlocks dX11_taken_15
  intro H locs ls h hP hD hS hl
  exact w0 σ a1 a2 H locs ls h hP hD hS (lv_sub hl [0, 1, 2] rfl)

set_option maxHeartbeats 4000000 in
set_option maxRecDepth 100000 in
theorem tX11_names (l : Launch) (dC : Nat → ClassId) (dI : Nat → Nat → Nat) (cy : Nat → ClassId) (ad : Nat → Nat) (τ nb : Nat) (hτ : τ < nb) (σ : S2) (a1 : Int32) (a2 : Int32) (a3 : Int32) (sz : Nat) (r0 : Int32) (σ9 : S2) (h : fX11_names τ σ a1 a2 a3 = some (r0, σ9)) : Met l yX11_names wsX11_names ({ frames := 4, cells := 0, slots := 0, locals := 114 }) (va_Pc [.ref (ad 0), .int a1, .int a2, .int a3] (wPre (dC, dI) cy (wG (cC cy ad τ) ad (182 + 6 * nb) σ) sz)) (va_Qi (fun (r : Int32) (_ : Unit) => r = r0) (fun (_ : Unit) t => wAt (dC, dI) (va_A (wG (cC cy ad τ) ad (182 + 6 * nb) σ) sz) (wG (cC cy ad τ) ad (182 + 6 * nb) σ9) t) (va_A (wG (cC cy ad τ) ad (182 + 6 * nb) σ) sz)) 0 0 (va_A (wG (cC cy ad τ) ad (182 + 6 * nb) σ) sz) := by
  refine Met.ofW (cc := cX11_names) (maxL := 4) (ret := (some .int)) (by decide) rfl ?_
  intro p e s m args below meth c s₁ B hml hv
  obtain ⟨rfl, hsz, hP, hK, hD0, hN⟩ := hv
  have hx := B.exec
  have hb := B.bytes
  have hr := B.returns
  have hts := atoms_spec (ws := wsX11_names) B.pre
  have hown : s.vm.findClass RX11 = some m.cls := findClass_of_methodNamed B.named
  have hlocks := B.notSynchronized
  subst hsz
  have hD := hD0.self (sz := s.heap.size)
  generalize hAe : va_A (wG (cC cy ad τ) ad (182 + 6 * nb) σ) s.heap.size = A at hD ⊢
  have hA : ∀ q : Nat, s.heap.size ≤ q → A q := fun q h => by rw [← hAe]; exact Or.inr h
  have hS : va_S A s.heap s.heap [] := va_S.rf
  have hl := lv_entry ([.ref (ad 0), .int a1, .int a2, .int a3]) (n := 4) (Nat.le_of_ble_eq_true rfl)
  rw [lg_entry_eq]
  generalize (lg_sl ([.ref (ad 0), .int a1, .int a2, .int a3]) ++ List.replicate (4 - (lg_sl ([.ref (ad 0), .int a1, .int a2, .int a3])).length) Slot.unset).toArray = ls at hl ⊢
  have hl : lv_has ls 4 [(0, .ref (ad 0)), (1, .int a1), (2, .int a2), (3, .int a3)] := hl
  unfold fX11_names at h
  clear hAe hD0
  suffices HH : ∀ (H : Heap) (locs : List Loc) (ls : Array Slot), fX11_names_0 τ σ a1 a2 a3 = some (r0, σ9) → va_P (dC, dI) vwCl (wG (cC cy ad τ) ad (182 + 6 * nb) σ) H → va_D A (wG (cC cy ad τ) ad (182 + 6 * nb) σ) → va_S A s.heap H locs → lv_has ls 4 [(0, .ref (ad 0)), (1, .int a1), (2, .int a2), (3, .int a3)] → W p l e (headSpec wsX11_names ({ frames := 4, cells := 0, slots := 0, locals := 114 })).room s m (#[.ref (ad 0), .int a1, .int a2, .int a3]) below meth c H locs 0 0 (MQ below (va_Qi (fun (r : Int32) (_ : Unit) => r = r0) (fun (_ : Unit) t => wAt (dC, dI) A (wG (cC cy ad τ) ad (182 + 6 * nb) σ9) t) A) (#[.ref (ad 0), .int a1, .int a2, .int a3]) s 0 0 A) (F0 m 0 ls []) from HH s.heap [] ls h hP hD hS hl
  have w0 : ∀ (σ : S2) (x1 : Int32) (x2 : Int32) (x3 : Int32) (H : Heap) (locs : List Loc) (ls : Array Slot), fX11_names_0 τ σ x1 x2 x3 = some (r0, σ9) → va_P (dC, dI) vwCl (wG (cC cy ad τ) ad (182 + 6 * nb) σ) H → va_D A (wG (cC cy ad τ) ad (182 + 6 * nb) σ) → va_S A s.heap H locs → lv_has ls 4 [(0, .ref (ad 0)), (1, .int x1), (2, .int x2), (3, .int x3)] → W p l e (headSpec wsX11_names ({ frames := 4, cells := 0, slots := 0, locals := 114 })).room s m (#[.ref (ad 0), .int a1, .int a2, .int a3]) below meth c H locs 0 0 (MQ below (va_Qi (fun (r : Int32) (_ : Unit) => r = r0) (fun (_ : Unit) t => wAt (dC, dI) A (wG (cC cy ad τ) ad (182 + 6 * nb) σ9) t) A) (#[.ref (ad 0), .int a1, .int a2, .int a3]) s 0 0 A) (F0 m 0 ls []) := by
    intro σ x1 x2 x3 H locs ls h hP hD hS hl
    unfold fX11_names_0 at h
    refine lv_iload_n hx hb dX11_names_0 rfl (lv_at hl 1 rfl) ?_
    obtain ⟨r1, hf2, h⟩ := biS h
    refine ux_calli (va_runS (As := [.int x1]) (rest := []) ⟨hx, hb, hml, hown, hts⟩ (tX11_isShelf l dC dI cy ad τ nb hτ σ x1 H.size r1 hf2) (va_cwS 1 hts gX11_names_X11_isShelf rfl rfl rfl (by decide +kernel) ⟨Nat.le_of_ble_eq_true rfl, Nat.le_of_ble_eq_true rfl⟩) (wp_S hK hN hP hD) rfl rfl hl.1 rfl (lv_room (Nat.le_of_ble_eq_true rfl)) dX11_names_1 ⟨Nat.le_of_ble_eq_true rfl, Nat.le_of_ble_eq_true rfl⟩) hD hS hA (fun H locs hP hD hS => ?_)
    refine lv_if_eq (tgt := 18) hx hb dX11_names_4 (by decide) (fun hcd => ?_) (fun hcd => ?_)
    · have h := cdP hcd h
      refine lv_iconst (v := (-1)) hx hb dX11_names_18 (by decide) ?_
      exact ux_iret hx hb hr h hP hD hS hlocks dX11_names_19
    · have h := cdN hcd h
      refine lv_iload_n hx hb dX11_names_7 rfl (lv_at hl 3 rfl) ?_
      refine lv_iconst (v := 1) hx hb dX11_names_8 (by decide) ?_
      refine lv_icmp_lt (tgt := 18) hx hb dX11_names_9 (by decide) (fun hcd => ?_) (fun hcd => ?_)
      · have h := cdP hcd h
        refine lv_iconst (v := (-1)) hx hb dX11_names_18 (by decide) ?_
        exact ux_iret hx hb hr h hP hD hS hlocks dX11_names_19
      · have h := cdN hcd h
        refine lv_iload_n hx hb dX11_names_12 rfl (lv_at hl 3 rfl) ?_
        refine lv_bipush (v := 20) hx hb dX11_names_13 (by decide) ?_
        refine lv_icmp_le (tgt := 20) hx hb dX11_names_15 (by decide) (fun hcd => ?_) (fun hcd => ?_)
        · have h := cdP hcd h
          refine lv_aload_n hx hb dX11_names_20 rfl (lv_at hl 0 rfl) ?_
          refine ux_get (D := (dC, dI)) (ci := 11) (v := .ref (ad 37)) (C := RX11) (T := TX11) (M := 13) (fs := (oSR ad (σ.1 0))) hx hb hts (fun _ h9 => List.mem_cons_of_mem _ (List.mem_append_left _ (List.mem_append_left _ (List.mem_append_right _ h9)))) hown hK hP 0 (Nat.lt_of_lt_of_le (Nat.le_of_ble_eq_true rfl : 0 < 182) (Nat.le_add_right _ _)) (cC_0 _ _ _ _ _) rfl 12 (by decide) (hts (.fieldLink RX11 98 "SeatsRound" "rows" "LSeatsRound$Rows;") (List.mem_of_getElem? (i := 1) rfl)) (fun _ h9 => h9) rfl dX11_names_21 ?_
          refine lv_iload_n hx hb dX11_names_24 rfl (lv_at hl 1 rfl) ?_
          obtain ⟨r3, hf4, h⟩ := biS h
          refine ux_calli (va_runV (As := [.int x1]) (rest := []) ⟨hx, hb, hml, hown, hts⟩ (tX7_isEmpty l dC dI cy ad τ nb hτ σ x1 H.size r3 hf4) (cwV 1 hts gX11_names_X7_isEmpty rfl rfl rfl (by decide +kernel) ⟨Nat.le_of_ble_eq_true rfl, Nat.le_of_ble_eq_true rfl⟩) (wp_V hK hN hP hD (va_recv hK hP (ci := 7) (q0 := 37) rfl (wG_of (Nat.lt_of_lt_of_le (Nat.le_of_ble_eq_true rfl : 37 < 182) (Nat.le_add_right _ _)) (cC_37 _ _ _ _ _)))) rfl rfl hl.1 rfl (lv_room (Nat.le_of_ble_eq_true rfl)) dX11_names_25 ⟨Nat.le_of_ble_eq_true rfl, Nat.le_of_ble_eq_true rfl⟩) hD hS hA (fun H locs hP hD hS => ?_)
          refine lv_if_eq (tgt := 33) hx hb dX11_names_28 (by decide) (fun hcd => ?_) (fun hcd => ?_)
          · have h := cdP hcd h
            refine lv_aload_n hx hb dX11_names_33 rfl (lv_at hl 0 rfl) ?_
            refine ux_get (D := (dC, dI)) (ci := 11) (v := .ref (ad 37)) (C := RX11) (T := TX11) (M := 13) (fs := (oSR ad (σ.1 0))) hx hb hts (fun _ h9 => List.mem_cons_of_mem _ (List.mem_append_left _ (List.mem_append_left _ (List.mem_append_right _ h9)))) hown hK hP 0 (Nat.lt_of_lt_of_le (Nat.le_of_ble_eq_true rfl : 0 < 182) (Nat.le_add_right _ _)) (cC_0 _ _ _ _ _) rfl 12 (by decide) (hts (.fieldLink RX11 98 "SeatsRound" "rows" "LSeatsRound$Rows;") (List.mem_of_getElem? (i := 1) rfl)) (fun _ h9 => h9) rfl dX11_names_34 ?_
            refine lv_iload_n hx hb dX11_names_37 rfl (lv_at hl 1 rfl) ?_
            obtain ⟨r5, hf6, h⟩ := biS h
            refine ux_calli (va_runV (As := [.int x1]) (rest := []) ⟨hx, hb, hml, hown, hts⟩ (tX7_isRow l dC dI cy ad τ nb hτ σ x1 H.size r5 hf6) (cwV 1 hts gX11_names_X7_isRow rfl rfl rfl (by decide +kernel) ⟨Nat.le_of_ble_eq_true rfl, Nat.le_of_ble_eq_true rfl⟩) (wp_V hK hN hP hD (va_recv hK hP (ci := 7) (q0 := 37) rfl (wG_of (Nat.lt_of_lt_of_le (Nat.le_of_ble_eq_true rfl : 37 < 182) (Nat.le_add_right _ _)) (cC_37 _ _ _ _ _)))) rfl rfl hl.1 rfl (lv_room (Nat.le_of_ble_eq_true rfl)) dX11_names_38 ⟨Nat.le_of_ble_eq_true rfl, Nat.le_of_ble_eq_true rfl⟩) hD hS hA (fun H locs hP hD hS => ?_)
            refine lv_if_eq (tgt := 56) hx hb dX11_names_41 (by decide) (fun hcd => ?_) (fun hcd => ?_)
            · have h := cdP hcd h
              refine lv_bipush (v := (-12)) hx hb dX11_names_56 (by decide) ?_
              exact ux_iret hx hb hr h hP hD hS hlocks dX11_names_58
            · have h := cdN hcd h
              refine lv_aload_n hx hb dX11_names_44 rfl (lv_at hl 0 rfl) ?_
              refine ux_get (D := (dC, dI)) (ci := 11) (v := .ref (ad 37)) (C := RX11) (T := TX11) (M := 13) (fs := (oSR ad (σ.1 0))) hx hb hts (fun _ h9 => List.mem_cons_of_mem _ (List.mem_append_left _ (List.mem_append_left _ (List.mem_append_right _ h9)))) hown hK hP 0 (Nat.lt_of_lt_of_le (Nat.le_of_ble_eq_true rfl : 0 < 182) (Nat.le_add_right _ _)) (cC_0 _ _ _ _ _) rfl 12 (by decide) (hts (.fieldLink RX11 98 "SeatsRound" "rows" "LSeatsRound$Rows;") (List.mem_of_getElem? (i := 1) rfl)) (fun _ h9 => h9) rfl dX11_names_45 ?_
              refine ux_get (D := (dC, dI)) (ci := 7) (v := .ref (ad 39)) (C := RX7) (T := TX7) (M := 4) (fs := (oRW ad (σ.1 37))) hx hb hts (fun _ h9 => List.mem_cons_of_mem _ (List.mem_append_left _ (List.mem_append_right _ h9))) hown hK hP 37 (Nat.lt_of_lt_of_le (Nat.le_of_ble_eq_true rfl : 37 < 182) (Nat.le_add_right _ _)) (cC_37 _ _ _ _ _) rfl 1 (by decide) (hts (.fieldLink RX11 371 "SeatsRound$Rows" "sort" "[I") (List.mem_of_getElem? (i := 2) rfl)) (fun _ h9 => h9) rfl dX11_names_48 ?_
              refine lv_iload_n hx hb dX11_names_51 rfl (lv_at hl 1 rfl) ?_
              refine ux_iald hx hb hK hP 39 0 (Nat.lt_of_lt_of_le (Nat.le_of_ble_eq_true rfl : 39 < 182) (Nat.le_add_right _ _)) (cC_39 _ _ _ _ _) rfl h dX11_names_52 (fun v7 h => ?_)
              refine lv_if_eq (tgt := 59) hx hb dX11_names_53 (by decide) (fun hcd => ?_) (fun hcd => ?_)
              · have h := cdP hcd h
                refine lv_aload_n hx hb dX11_names_59 rfl (lv_at hl 0 rfl) ?_
                refine ux_get (D := (dC, dI)) (ci := 11) (v := .ref (ad 3)) (C := RX11) (T := TX11) (M := 13) (fs := (oSR ad (σ.1 0))) hx hb hts (fun _ h9 => List.mem_cons_of_mem _ (List.mem_append_left _ (List.mem_append_left _ (List.mem_append_right _ h9)))) hown hK hP 0 (Nat.lt_of_lt_of_le (Nat.le_of_ble_eq_true rfl : 0 < 182) (Nat.le_add_right _ _)) (cC_0 _ _ _ _ _) rfl 1 (by decide) (hts (.fieldLink RX11 19 "SeatsRound" "nameList" "LSeatsRound$NameList;") (List.mem_of_getElem? (i := 3) rfl)) (fun _ h9 => h9) rfl dX11_names_60 ?_
                refine lv_aload_n hx hb dX11_names_63 rfl (lv_at hl 0 rfl) ?_
                refine ux_get (D := (dC, dI)) (ci := 11) (v := .ref (ad 37)) (C := RX11) (T := TX11) (M := 13) (fs := (oSR ad (σ.1 0))) hx hb hts (fun _ h9 => List.mem_cons_of_mem _ (List.mem_append_left _ (List.mem_append_left _ (List.mem_append_right _ h9)))) hown hK hP 0 (Nat.lt_of_lt_of_le (Nat.le_of_ble_eq_true rfl : 0 < 182) (Nat.le_add_right _ _)) (cC_0 _ _ _ _ _) rfl 12 (by decide) (hts (.fieldLink RX11 98 "SeatsRound" "rows" "LSeatsRound$Rows;") (List.mem_of_getElem? (i := 1) rfl)) (fun _ h9 => h9) rfl dX11_names_64 ?_
                refine ux_get (D := (dC, dI)) (ci := 7) (v := .ref (ad 41)) (C := RX7) (T := TX7) (M := 4) (fs := (oRW ad (σ.1 37))) hx hb hts (fun _ h9 => List.mem_cons_of_mem _ (List.mem_append_left _ (List.mem_append_right _ h9))) hown hK hP 37 (Nat.lt_of_lt_of_le (Nat.le_of_ble_eq_true rfl : 37 < 182) (Nat.le_add_right _ _)) (cC_37 _ _ _ _ _) rfl 3 (by decide) (hts (.fieldLink RX11 367 "SeatsRound$Rows" "elements" "[[J") (List.mem_of_getElem? (i := 4) rfl)) (fun _ h9 => h9) rfl dX11_names_67 ?_
                refine lv_iload_n hx hb dX11_names_70 rfl (lv_at hl 1 rfl) ?_
                obtain ⟨hii8, h⟩ := ckS h
                have hri8 := vp_lt hii8
                refine vz_aldg hx hb hK hP 41 7 (wG_of (Nat.lt_of_lt_of_le (Nat.le_of_ble_eq_true rfl : 41 < 182) (Nat.le_add_right _ _)) (cC_41 _ _ _ _ _)) rfl hii8 (if_pos hri8) dX11_names_71 ?_
                refine lv_aload_n hx hb dX11_names_72 rfl (lv_at hl 0 rfl) ?_
                refine ux_get (D := (dC, dI)) (ci := 11) (v := .ref (ad 37)) (C := RX11) (T := TX11) (M := 13) (fs := (oSR ad (σ.1 0))) hx hb hts (fun _ h9 => List.mem_cons_of_mem _ (List.mem_append_left _ (List.mem_append_left _ (List.mem_append_right _ h9)))) hown hK hP 0 (Nat.lt_of_lt_of_le (Nat.le_of_ble_eq_true rfl : 0 < 182) (Nat.le_add_right _ _)) (cC_0 _ _ _ _ _) rfl 12 (by decide) (hts (.fieldLink RX11 98 "SeatsRound" "rows" "LSeatsRound$Rows;") (List.mem_of_getElem? (i := 1) rfl)) (fun _ h9 => h9) rfl dX11_names_73 ?_
                refine ux_get (D := (dC, dI)) (ci := 7) (v := .ref (ad 40)) (C := RX7) (T := TX7) (M := 4) (fs := (oRW ad (σ.1 37))) hx hb hts (fun _ h9 => List.mem_cons_of_mem _ (List.mem_append_left _ (List.mem_append_right _ h9))) hown hK hP 37 (Nat.lt_of_lt_of_le (Nat.le_of_ble_eq_true rfl : 37 < 182) (Nat.le_add_right _ _)) (cC_37 _ _ _ _ _) rfl 2 (by decide) (hts (.fieldLink RX11 405 "SeatsRound$Rows" "length" "[I") (List.mem_of_getElem? (i := 5) rfl)) (fun _ h9 => h9) rfl dX11_names_76 ?_
                refine lv_iload_n hx hb dX11_names_79 rfl (lv_at hl 1 rfl) ?_
                refine ux_iald hx hb hK hP 40 0 (Nat.lt_of_lt_of_le (Nat.le_of_ble_eq_true rfl : 40 < 182) (Nat.le_add_right _ _)) (cC_40 _ _ _ _ _) rfl h dX11_names_80 (fun v9 h => ?_)
                refine lv_iload_n hx hb dX11_names_81 rfl (lv_at hl 2 rfl) ?_
                refine lv_iload_n hx hb dX11_names_82 rfl (lv_at hl 3 rfl) ?_
                obtain ⟨r10, σ11, hf12, h⟩ := bsS h
                refine ux_calli (va_runV (As := [.ref (ad (176 + Int32.toNatClampNeg x1)), .int v9, .int x2, .int x3]) (rest := []) ⟨hx, hb, hml, hown, hts⟩ (tX4_addFrom l dC dI cy ad τ nb hτ (176 + Int32.toNatClampNeg x1) 60 (by omega) (fun _ _ => (cC_r7 _ _ _ _ _ _ (by omega))) σ v9 x2 x3 H.size r10 σ11 hf12) (cwV 4 hts gX11_names_X4_addFrom rfl rfl rfl (by decide +kernel) ⟨Nat.le_of_ble_eq_true rfl, Nat.le_of_ble_eq_true rfl⟩) (wp_V hK hN hP hD (va_recv hK hP (ci := 4) (q0 := 3) rfl (wG_of (Nat.lt_of_lt_of_le (Nat.le_of_ble_eq_true rfl : 3 < 182) (Nat.le_add_right _ _)) (cC_3 _ _ _ _ _)))) rfl rfl hl.1 rfl (lv_room (Nat.le_of_ble_eq_true rfl)) dX11_names_83 ⟨Nat.le_of_ble_eq_true rfl, Nat.le_of_ble_eq_true rfl⟩) hD hS hA (fun H locs hP hD hS => ?_)
                exact ux_iret hx hb hr h hP hD hS hlocks dX11_names_86
              · have h := cdN hcd h
                refine lv_bipush (v := (-12)) hx hb dX11_names_56 (by decide) ?_
                exact ux_iret hx hb hr h hP hD hS hlocks dX11_names_58
          · have h := cdN hcd h
            refine lv_iconst (v := 0) hx hb dX11_names_31 (by decide) ?_
            exact ux_iret hx hb hr h hP hD hS hlocks dX11_names_32
        · have h := cdN hcd h
          refine lv_iconst (v := (-1)) hx hb dX11_names_18 (by decide) ?_
          exact ux_iret hx hb hr h hP hD hS hlocks dX11_names_19
  intro H locs ls h hP hD hS hl
  exact w0 σ a1 a2 a3 H locs ls h hP hD hS (lv_sub hl [0, 1, 2, 3] rfl)

set_option maxHeartbeats 4000000 in
set_option maxRecDepth 100000 in
theorem tX11_count (l : Launch) (dC : Nat → ClassId) (dI : Nat → Nat → Nat) (cy : Nat → ClassId) (ad : Nat → Nat) (τ nb : Nat) (hτ : τ < nb) (σ : S2) (a1 : Int32) (sz : Nat) (r0 : Int32) (h : fX11_count τ σ a1 = some r0) : Met l yX11_count wsX11_count ({ frames := 4, cells := 0, slots := 0, locals := 91 }) (va_Pc [.ref (ad 0), .int a1] (wPre (dC, dI) cy (wG (cC cy ad τ) ad (182 + 6 * nb) σ) sz)) (va_Qi (fun (r : Int32) (_ : Unit) => r = r0) (fun (_ : Unit) t => wAt (dC, dI) (va_A (wG (cC cy ad τ) ad (182 + 6 * nb) σ) sz) (wG (cC cy ad τ) ad (182 + 6 * nb) σ) t) (va_A (wG (cC cy ad τ) ad (182 + 6 * nb) σ) sz)) 0 0 (va_A (wG (cC cy ad τ) ad (182 + 6 * nb) σ) sz) := by
  refine Met.ofW (cc := cX11_count) (maxL := 2) (ret := (some .int)) (by decide) rfl ?_
  intro p e s m args below meth c s₁ B hml hv
  obtain ⟨rfl, hsz, hP, hK, hD0, hN⟩ := hv
  have hx := B.exec
  have hb := B.bytes
  have hr := B.returns
  have hts := atoms_spec (ws := wsX11_count) B.pre
  have hown : s.vm.findClass RX11 = some m.cls := findClass_of_methodNamed B.named
  have hlocks := B.notSynchronized
  subst hsz
  have hD := hD0.self (sz := s.heap.size)
  generalize hAe : va_A (wG (cC cy ad τ) ad (182 + 6 * nb) σ) s.heap.size = A at hD ⊢
  have hA : ∀ q : Nat, s.heap.size ≤ q → A q := fun q h => by rw [← hAe]; exact Or.inr h
  have hS : va_S A s.heap s.heap [] := va_S.rf
  have hl := lv_entry ([.ref (ad 0), .int a1]) (n := 2) (Nat.le_of_ble_eq_true rfl)
  rw [lg_entry_eq]
  generalize (lg_sl ([.ref (ad 0), .int a1]) ++ List.replicate (2 - (lg_sl ([.ref (ad 0), .int a1])).length) Slot.unset).toArray = ls at hl ⊢
  have hl : lv_has ls 2 [(0, .ref (ad 0)), (1, .int a1)] := hl
  unfold fX11_count at h
  clear hAe hD0
  suffices HH : ∀ (H : Heap) (locs : List Loc) (ls : Array Slot), fX11_count_0 τ σ a1 = some r0 → va_P (dC, dI) vwCl (wG (cC cy ad τ) ad (182 + 6 * nb) σ) H → va_D A (wG (cC cy ad τ) ad (182 + 6 * nb) σ) → va_S A s.heap H locs → lv_has ls 2 [(0, .ref (ad 0)), (1, .int a1)] → W p l e (headSpec wsX11_count ({ frames := 4, cells := 0, slots := 0, locals := 91 })).room s m (#[.ref (ad 0), .int a1]) below meth c H locs 0 0 (MQ below (va_Qi (fun (r : Int32) (_ : Unit) => r = r0) (fun (_ : Unit) t => wAt (dC, dI) A (wG (cC cy ad τ) ad (182 + 6 * nb) σ) t) A) (#[.ref (ad 0), .int a1]) s 0 0 A) (F0 m 0 ls []) from HH s.heap [] ls h hP hD hS hl
  have w0 : ∀ (σ : S2) (x1 : Int32) (H : Heap) (locs : List Loc) (ls : Array Slot), fX11_count_0 τ σ x1 = some r0 → va_P (dC, dI) vwCl (wG (cC cy ad τ) ad (182 + 6 * nb) σ) H → va_D A (wG (cC cy ad τ) ad (182 + 6 * nb) σ) → va_S A s.heap H locs → lv_has ls 2 [(0, .ref (ad 0)), (1, .int x1)] → W p l e (headSpec wsX11_count ({ frames := 4, cells := 0, slots := 0, locals := 91 })).room s m (#[.ref (ad 0), .int a1]) below meth c H locs 0 0 (MQ below (va_Qi (fun (r : Int32) (_ : Unit) => r = r0) (fun (_ : Unit) t => wAt (dC, dI) A (wG (cC cy ad τ) ad (182 + 6 * nb) σ) t) A) (#[.ref (ad 0), .int a1]) s 0 0 A) (F0 m 0 ls []) := by
    intro σ x1 H locs ls h hP hD hS hl
    unfold fX11_count_0 at h
    refine lv_iload_n hx hb dX11_count_0 rfl (lv_at hl 1 rfl) ?_
    by_cases hcd1 : x1 = 0
    · have h := cdP hcd1 h
      refine lv_tableIn (off := 47) (tgt := 48) hx hb dX11_count_1 (by rw [hcd1]; decide) (by rw [hcd1]; decide) (by rw [hcd1]; rfl) (by decide) ?_
      refine lv_aload_n hx hb dX11_count_48 rfl (lv_at hl 0 rfl) ?_
      refine ux_get (D := (dC, dI)) (ci := 11) (v := .ref (ad 3)) (C := RX11) (T := TX11) (M := 13) (fs := (oSR ad (σ.1 0))) hx hb hts (fun _ h9 => List.mem_cons_of_mem _ (List.mem_append_left _ (List.mem_append_left _ (List.mem_append_left _ (List.mem_append_left _ (List.mem_append_left _ (List.mem_append_right _ h9))))))) hown hK hP 0 (Nat.lt_of_lt_of_le (Nat.le_of_ble_eq_true rfl : 0 < 182) (Nat.le_add_right _ _)) (cC_0 _ _ _ _ _) rfl 1 (by decide) (hts (.fieldLink RX11 19 "SeatsRound" "nameList" "LSeatsRound$NameList;") (List.mem_of_getElem? (i := 1) rfl)) (fun _ h9 => h9) rfl dX11_count_49 ?_
      refine ux_get (D := (dC, dI)) (ci := 4) (v := .int (σ.1 3 3)) (C := RX4) (T := TX4) (M := 4) (fs := (oNL ad (σ.1 3))) hx hb hts (fun _ h9 => List.mem_cons_of_mem _ (List.mem_append_left _ (List.mem_append_left _ (List.mem_append_left _ (List.mem_append_left _ (List.mem_append_right _ h9)))))) hown hK hP 3 (Nat.lt_of_lt_of_le (Nat.le_of_ble_eq_true rfl : 3 < 182) (Nat.le_add_right _ _)) (cC_3 _ _ _ _ _) rfl 3 (by decide) (hts (.fieldLink RX11 117 "SeatsRound$NameList" "count" "I") (List.mem_of_getElem? (i := 2) rfl)) (fun _ h9 => h9) rfl dX11_count_52 ?_
      exact ux_iretP hx hb hr h hP hD hS hlocks dX11_count_55
    · have h := cdN hcd1 h
      have ihcd1 : ¬ x1.toInt = (0 : Int) := fun h9 => hcd1 (Int32.toInt_inj.mp h9)
      by_cases hcd2 : x1 = 1
      · have h := cdP hcd2 h
        refine lv_tableIn (off := 55) (tgt := 56) hx hb dX11_count_1 (by rw [hcd2]; decide) (by rw [hcd2]; decide) (by rw [hcd2]; rfl) (by decide) ?_
        refine lv_aload_n hx hb dX11_count_56 rfl (lv_at hl 0 rfl) ?_
        refine ux_get (D := (dC, dI)) (ci := 11) (v := .ref (ad 7)) (C := RX11) (T := TX11) (M := 13) (fs := (oSR ad (σ.1 0))) hx hb hts (fun _ h9 => List.mem_cons_of_mem _ (List.mem_append_left _ (List.mem_append_left _ (List.mem_append_left _ (List.mem_append_left _ (List.mem_append_left _ (List.mem_append_right _ h9))))))) hown hK hP 0 (Nat.lt_of_lt_of_le (Nat.le_of_ble_eq_true rfl : 0 < 182) (Nat.le_add_right _ _)) (cC_0 _ _ _ _ _) rfl 2 (by decide) (hts (.fieldLink RX11 26 "SeatsRound" "keepers" "LSeatsRound$Keepers;") (List.mem_of_getElem? (i := 3) rfl)) (fun _ h9 => h9) rfl dX11_count_57 ?_
        refine ux_get (D := (dC, dI)) (ci := 2) (v := .int (σ.1 7 5)) (C := RX2) (T := TX2) (M := 6) (fs := (oKP ad (σ.1 7))) hx hb hts (fun _ h9 => List.mem_cons_of_mem _ (List.mem_append_left _ (List.mem_append_left _ (List.mem_append_left _ (List.mem_append_right _ h9))))) hown hK hP 7 (Nat.lt_of_lt_of_le (Nat.le_of_ble_eq_true rfl : 7 < 182) (Nat.le_add_right _ _)) (cC_7 _ _ _ _ _) rfl 5 (by decide) (hts (.fieldLink RX11 134 "SeatsRound$Keepers" "count" "I") (List.mem_of_getElem? (i := 4) rfl)) (fun _ h9 => h9) rfl dX11_count_60 ?_
        exact ux_iretP hx hb hr h hP hD hS hlocks dX11_count_63
      · have h := cdN hcd2 h
        have ihcd2 : ¬ x1.toInt = (1 : Int) := fun h9 => hcd2 (Int32.toInt_inj.mp h9)
        by_cases hcd3 : x1 = 2
        · have h := cdP hcd3 h
          refine lv_tableIn (off := 63) (tgt := 64) hx hb dX11_count_1 (by rw [hcd3]; decide) (by rw [hcd3]; decide) (by rw [hcd3]; rfl) (by decide) ?_
          refine lv_aload_n hx hb dX11_count_64 rfl (lv_at hl 0 rfl) ?_
          refine ux_get (D := (dC, dI)) (ci := 11) (v := .int (σ.1 0 6)) (C := RX11) (T := TX11) (M := 13) (fs := (oSR ad (σ.1 0))) hx hb hts (fun _ h9 => List.mem_cons_of_mem _ (List.mem_append_left _ (List.mem_append_left _ (List.mem_append_left _ (List.mem_append_left _ (List.mem_append_left _ (List.mem_append_right _ h9))))))) hown hK hP 0 (Nat.lt_of_lt_of_le (Nat.le_of_ble_eq_true rfl : 0 < 182) (Nat.le_add_right _ _)) (cC_0 _ _ _ _ _) rfl 6 (by decide) (hts (.fieldLink RX11 52 "SeatsRound" "tableCount" "I") (List.mem_of_getElem? (i := 5) rfl)) (fun _ h9 => h9) rfl dX11_count_65 ?_
          exact ux_iretP hx hb hr h hP hD hS hlocks dX11_count_68
        · have h := cdN hcd3 h
          have ihcd3 : ¬ x1.toInt = (2 : Int) := fun h9 => hcd3 (Int32.toInt_inj.mp h9)
          by_cases hcd4 : x1 = 3
          · have h := cdP hcd4 h
            refine lv_tableIn (off := 68) (tgt := 69) hx hb dX11_count_1 (by rw [hcd4]; decide) (by rw [hcd4]; decide) (by rw [hcd4]; rfl) (by decide) ?_
            refine lv_aload_n hx hb dX11_count_69 rfl (lv_at hl 0 rfl) ?_
            refine ux_get (D := (dC, dI)) (ci := 11) (v := .ref (ad 1)) (C := RX11) (T := TX11) (M := 13) (fs := (oSR ad (σ.1 0))) hx hb hts (fun _ h9 => List.mem_cons_of_mem _ (List.mem_append_left _ (List.mem_append_left _ (List.mem_append_left _ (List.mem_append_left _ (List.mem_append_left _ (List.mem_append_right _ h9))))))) hown hK hP 0 (Nat.lt_of_lt_of_le (Nat.le_of_ble_eq_true rfl : 0 < 182) (Nat.le_add_right _ _)) (cC_0 _ _ _ _ _) rfl 0 (by decide) (hts (.fieldLink RX11 10 "SeatsRound" "tape" "LSeatsRound$Tape;") (List.mem_of_getElem? (i := 6) rfl)) (fun _ h9 => h9) rfl dX11_count_70 ?_
            refine ux_get (D := (dC, dI)) (ci := 9) (v := .int (σ.1 1 1)) (C := RX9) (T := TX9) (M := 2) (fs := (oTP ad (σ.1 1))) hx hb hts (fun _ h9 => List.mem_cons_of_mem _ (List.mem_append_left _ (List.mem_append_left _ (List.mem_append_right _ h9)))) hown hK hP 1 (Nat.lt_of_lt_of_le (Nat.le_of_ble_eq_true rfl : 1 < 182) (Nat.le_add_right _ _)) (cC_1 _ _ _ _ _) rfl 1 (by decide) (hts (.fieldLink RX11 102 "SeatsRound$Tape" "length" "I") (List.mem_of_getElem? (i := 7) rfl)) (fun _ h9 => h9) rfl dX11_count_73 ?_
            exact ux_iretP hx hb hr h hP hD hS hlocks dX11_count_76
          · have h := cdN hcd4 h
            have ihcd4 : ¬ x1.toInt = (3 : Int) := fun h9 => hcd4 (Int32.toInt_inj.mp h9)
            by_cases hcd5 : x1 = 4
            · have h := cdP hcd5 h
              refine lv_tableIn (off := 76) (tgt := 77) hx hb dX11_count_1 (by rw [hcd5]; decide) (by rw [hcd5]; decide) (by rw [hcd5]; rfl) (by decide) ?_
              refine lv_aload_n hx hb dX11_count_77 rfl (lv_at hl 0 rfl) ?_
              refine ux_get (D := (dC, dI)) (ci := 11) (v := .ref (ad 18)) (C := RX11) (T := TX11) (M := 13) (fs := (oSR ad (σ.1 0))) hx hb hts (fun _ h9 => List.mem_cons_of_mem _ (List.mem_append_left _ (List.mem_append_left _ (List.mem_append_left _ (List.mem_append_left _ (List.mem_append_left _ (List.mem_append_right _ h9))))))) hown hK hP 0 (Nat.lt_of_lt_of_le (Nat.le_of_ble_eq_true rfl : 0 < 182) (Nat.le_add_right _ _)) (cC_0 _ _ _ _ _) rfl 8 (by decide) (hts (.fieldLink RX11 66 "SeatsRound" "parcels" "LSeatsRound$Parcels;") (List.mem_of_getElem? (i := 8) rfl)) (fun _ h9 => h9) rfl dX11_count_78 ?_
              obtain ⟨r6, hf7, h⟩ := biS h
              refine ux_calli (va_runV (As := []) (rest := []) ⟨hx, hb, hml, hown, hts⟩ (tX6_allCopies l dC dI cy ad τ nb hτ σ H.size r6 hf7) (cwV 0 hts gX11_count_X6_allCopies rfl rfl rfl (by decide +kernel) ⟨Nat.le_of_ble_eq_true rfl, Nat.le_of_ble_eq_true rfl⟩) (wp_V hK hN hP hD (va_recv hK hP (ci := 6) (q0 := 18) rfl (wG_of (Nat.lt_of_lt_of_le (Nat.le_of_ble_eq_true rfl : 18 < 182) (Nat.le_add_right _ _)) (cC_18 _ _ _ _ _)))) rfl rfl hl.1 rfl (lv_room (Nat.le_of_ble_eq_true rfl)) dX11_count_81 ⟨Nat.le_of_ble_eq_true rfl, Nat.le_of_ble_eq_true rfl⟩) hD hS hA (fun H locs hP hD hS => ?_)
              exact ux_iretP hx hb hr h hP hD hS hlocks dX11_count_84
            · have h := cdN hcd5 h
              have ihcd5 : ¬ x1.toInt = (4 : Int) := fun h9 => hcd5 (Int32.toInt_inj.mp h9)
              by_cases hcd8 : x1 = 5
              · have h := cdP hcd8 h
                refine lv_tableIn (off := 84) (tgt := 85) hx hb dX11_count_1 (by rw [hcd8]; decide) (by rw [hcd8]; decide) (by rw [hcd8]; rfl) (by decide) ?_
                refine lv_aload_n hx hb dX11_count_85 rfl (lv_at hl 0 rfl) ?_
                refine ux_get (D := (dC, dI)) (ci := 11) (v := .ref (ad 18)) (C := RX11) (T := TX11) (M := 13) (fs := (oSR ad (σ.1 0))) hx hb hts (fun _ h9 => List.mem_cons_of_mem _ (List.mem_append_left _ (List.mem_append_left _ (List.mem_append_left _ (List.mem_append_left _ (List.mem_append_left _ (List.mem_append_right _ h9))))))) hown hK hP 0 (Nat.lt_of_lt_of_le (Nat.le_of_ble_eq_true rfl : 0 < 182) (Nat.le_add_right _ _)) (cC_0 _ _ _ _ _) rfl 8 (by decide) (hts (.fieldLink RX11 66 "SeatsRound" "parcels" "LSeatsRound$Parcels;") (List.mem_of_getElem? (i := 8) rfl)) (fun _ h9 => h9) rfl dX11_count_86 ?_
                obtain ⟨r9, hf10, h⟩ := biS h
                refine ux_calli (va_runV (As := []) (rest := []) ⟨hx, hb, hml, hown, hts⟩ (tX6_allKept l dC dI cy ad τ nb hτ σ H.size r9 hf10) (cwV 0 hts gX11_count_X6_allKept rfl rfl rfl (by decide +kernel) ⟨Nat.le_of_ble_eq_true rfl, Nat.le_of_ble_eq_true rfl⟩) (wp_V hK hN hP hD (va_recv hK hP (ci := 6) (q0 := 18) rfl (wG_of (Nat.lt_of_lt_of_le (Nat.le_of_ble_eq_true rfl : 18 < 182) (Nat.le_add_right _ _)) (cC_18 _ _ _ _ _)))) rfl rfl hl.1 rfl (lv_room (Nat.le_of_ble_eq_true rfl)) dX11_count_89 ⟨Nat.le_of_ble_eq_true rfl, Nat.le_of_ble_eq_true rfl⟩) hD hS hA (fun H locs hP hD hS => ?_)
                exact ux_iretP hx hb hr h hP hD hS hlocks dX11_count_92
              · have h := cdN hcd8 h
                have ihcd8 : ¬ x1.toInt = (5 : Int) := fun h9 => hcd8 (Int32.toInt_inj.mp h9)
                by_cases hcd11 : x1 = 6
                · have h := cdP hcd11 h
                  refine lv_tableIn (off := 92) (tgt := 93) hx hb dX11_count_1 (by rw [hcd11]; decide) (by rw [hcd11]; decide) (by rw [hcd11]; rfl) (by decide) ?_
                  refine lv_aload_n hx hb dX11_count_93 rfl (lv_at hl 0 rfl) ?_
                  refine ux_get (D := (dC, dI)) (ci := 11) (v := .ref (ad 18)) (C := RX11) (T := TX11) (M := 13) (fs := (oSR ad (σ.1 0))) hx hb hts (fun _ h9 => List.mem_cons_of_mem _ (List.mem_append_left _ (List.mem_append_left _ (List.mem_append_left _ (List.mem_append_left _ (List.mem_append_left _ (List.mem_append_right _ h9))))))) hown hK hP 0 (Nat.lt_of_lt_of_le (Nat.le_of_ble_eq_true rfl : 0 < 182) (Nat.le_add_right _ _)) (cC_0 _ _ _ _ _) rfl 8 (by decide) (hts (.fieldLink RX11 66 "SeatsRound" "parcels" "LSeatsRound$Parcels;") (List.mem_of_getElem? (i := 8) rfl)) (fun _ h9 => h9) rfl dX11_count_94 ?_
                  refine ux_get (D := (dC, dI)) (ci := 6) (v := .int (σ.1 18 8)) (C := RX6) (T := TX6) (M := 12) (fs := (oPC ad (σ.1 18))) hx hb hts (fun _ h9 => List.mem_cons_of_mem _ (List.mem_append_left _ (List.mem_append_right _ h9))) hown hK hP 18 (Nat.lt_of_lt_of_le (Nat.le_of_ble_eq_true rfl : 18 < 182) (Nat.le_add_right _ _)) (cC_18 _ _ _ _ _) rfl 8 (by decide) (hts (.fieldLink RX11 417 "SeatsRound$Parcels" "writings" "I") (List.mem_of_getElem? (i := 9) rfl)) (fun _ h9 => h9) rfl dX11_count_97 ?_
                  exact ux_iretP hx hb hr h hP hD hS hlocks dX11_count_100
                · have h := cdN hcd11 h
                  have ihcd11 : ¬ x1.toInt = (6 : Int) := fun h9 => hcd11 (Int32.toInt_inj.mp h9)
                  by_cases hcd12 : x1 = 7
                  · have h := cdP hcd12 h
                    refine lv_tableIn (off := 100) (tgt := 101) hx hb dX11_count_1 (by rw [hcd12]; decide) (by rw [hcd12]; decide) (by rw [hcd12]; rfl) (by decide) ?_
                    refine lv_aload_n hx hb dX11_count_101 rfl (lv_at hl 0 rfl) ?_
                    refine ux_get (D := (dC, dI)) (ci := 11) (v := .ref (ad 35)) (C := RX11) (T := TX11) (M := 13) (fs := (oSR ad (σ.1 0))) hx hb hts (fun _ h9 => List.mem_cons_of_mem _ (List.mem_append_left _ (List.mem_append_left _ (List.mem_append_left _ (List.mem_append_left _ (List.mem_append_left _ (List.mem_append_right _ h9))))))) hown hK hP 0 (Nat.lt_of_lt_of_le (Nat.le_of_ble_eq_true rfl : 0 < 182) (Nat.le_add_right _ _)) (cC_0 _ _ _ _ _) rfl 11 (by decide) (hts (.fieldLink RX11 91 "SeatsRound" "acts" "LSeatsRound$Acts;") (List.mem_of_getElem? (i := 10) rfl)) (fun _ h9 => h9) rfl dX11_count_102 ?_
                    refine ux_get (D := (dC, dI)) (ci := 0) (v := .int (σ.1 35 1)) (C := RX0) (T := TX0) (M := 5) (fs := (oAC ad (σ.1 35))) hx hb hts (fun _ h9 => List.mem_cons_of_mem _ (List.mem_append_right _ h9)) hown hK hP 35 (Nat.lt_of_lt_of_le (Nat.le_of_ble_eq_true rfl : 35 < 182) (Nat.le_add_right _ _)) (cC_35 _ _ _ _ _) rfl 1 (by decide) (hts (.fieldLink RX11 344 "SeatsRound$Acts" "ran" "I") (List.mem_of_getElem? (i := 11) rfl)) (fun _ h9 => h9) rfl dX11_count_105 ?_
                    exact ux_iretP hx hb hr h hP hD hS hlocks dX11_count_108
                  · have h := cdN hcd12 h
                    have ihcd12 : ¬ x1.toInt = (7 : Int) := fun h9 => hcd12 (Int32.toInt_inj.mp h9)
                    refine lv_tableOut (tgt := 109) hx hb dX11_count_1 (by omega) (by decide) ?_
                    refine lv_iconst (v := (-1)) hx hb dX11_count_109 (by decide) ?_
                    exact ux_iretP hx hb hr h hP hD hS hlocks dX11_count_110
  intro H locs ls h hP hD hS hl
  exact w0 σ a1 H locs ls h hP hD hS (lv_sub hl [0, 1] rfl)

