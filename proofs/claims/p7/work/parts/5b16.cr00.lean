set_option maxHeartbeats 4000000 in
set_option maxRecDepth 100000 in
theorem tX0_begin (l : Launch) (dC : Nat → ClassId) (dI : Nat → Nat → Nat) (cy : Nat → ClassId) (ad : Nat → Nat) (τ nb : Nat) (hτ : τ < nb) (σ : S2) (a1 : Int32) (sz : Nat) (r0 : Unit) (σ9 : S2) (h : fX0_begin τ σ a1 = some (r0, σ9)) : Met l yX0_begin wsX0_begin ({ frames := 1, cells := 0, slots := 0, locals := 23 }) (va_Pc [.ref (ad 35), .int a1] (wPre (dC, dI) cy (wG (cC cy ad τ) ad (182 + 6 * nb) σ) sz)) (va_Qv (fun (_ : Unit) => True) (fun (_ : Unit) t => wAt (dC, dI) (va_A (wG (cC cy ad τ) ad (182 + 6 * nb) σ) sz) (wG (cC cy ad τ) ad (182 + 6 * nb) σ9) t) (va_A (wG (cC cy ad τ) ad (182 + 6 * nb) σ) sz)) 0 0 (va_A (wG (cC cy ad τ) ad (182 + 6 * nb) σ) sz) := by
  refine Met.ofW (cc := cX0_begin) (maxL := 2) (ret := none) (by decide) rfl ?_
  intro p e s m args below meth c s₁ B hml hv
  obtain ⟨rfl, hsz, hP, hK, hD0, hN⟩ := hv
  have hx := B.exec
  have hb := B.bytes
  have hr := B.returns
  have hts := atoms_spec (ws := wsX0_begin) B.pre
  have hown : s.vm.findClass RX0 = some m.cls := findClass_of_methodNamed B.named
  have hlocks := B.notSynchronized
  subst hsz
  have hD := hD0.self (sz := s.heap.size)
  generalize hAe : va_A (wG (cC cy ad τ) ad (182 + 6 * nb) σ) s.heap.size = A at hD ⊢
  have hA : ∀ q : Nat, s.heap.size ≤ q → A q := fun q h => by rw [← hAe]; exact Or.inr h
  have hS : va_S A s.heap s.heap [] := va_S.rf
  have hl := lv_entry ([.ref (ad 35), .int a1]) (n := 2) (Nat.le_of_ble_eq_true rfl)
  rw [lg_entry_eq]
  generalize (lg_sl ([.ref (ad 35), .int a1]) ++ List.replicate (2 - (lg_sl ([.ref (ad 35), .int a1])).length) Slot.unset).toArray = ls at hl ⊢
  have hl : lv_has ls 2 [(0, .ref (ad 35)), (1, .int a1)] := hl
  unfold fX0_begin at h
  clear hAe hD0
  suffices HH : ∀ (H : Heap) (locs : List Loc) (ls : Array Slot), fX0_begin_0 τ σ a1 = some (r0, σ9) → va_P (dC, dI) vwCl (wG (cC cy ad τ) ad (182 + 6 * nb) σ) H → va_D A (wG (cC cy ad τ) ad (182 + 6 * nb) σ) → va_S A s.heap H locs → lv_has ls 2 [(0, .ref (ad 35)), (1, .int a1)] → W p l e (headSpec wsX0_begin ({ frames := 1, cells := 0, slots := 0, locals := 23 })).room s m (#[.ref (ad 35), .int a1]) below meth c H locs 0 0 (MQ below (va_Qv (fun (_ : Unit) => True) (fun (_ : Unit) t => wAt (dC, dI) A (wG (cC cy ad τ) ad (182 + 6 * nb) σ9) t) A) (#[.ref (ad 35), .int a1]) s 0 0 A) (F0 m 0 ls []) from HH s.heap [] ls h hP hD hS hl
  have w19 : ∀ (σ : S2)  (H : Heap) (locs : List Loc) (ls : Array Slot), fX0_begin_19 τ σ = some (r0, σ9) → va_P (dC, dI) vwCl (wG (cC cy ad τ) ad (182 + 6 * nb) σ) H → va_D A (wG (cC cy ad τ) ad (182 + 6 * nb) σ) → va_S A s.heap H locs → lv_has ls 2 [(0, .ref (ad 35))] → W p l e (headSpec wsX0_begin ({ frames := 1, cells := 0, slots := 0, locals := 23 })).room s m (#[.ref (ad 35), .int a1]) below meth c H locs 0 0 (MQ below (va_Qv (fun (_ : Unit) => True) (fun (_ : Unit) t => wAt (dC, dI) A (wG (cC cy ad τ) ad (182 + 6 * nb) σ9) t) A) (#[.ref (ad 35), .int a1]) s 0 0 A) (F0 m 19 ls []) := by
    intro σ H locs ls h hP hD hS hl
    unfold fX0_begin_19 at h
    refine lv_aload_n hx hb dX0_begin_19 rfl (lv_at hl 0 rfl) ?_
    refine lv_dup hx hb dX0_begin_20 rfl ?_
    refine ux_get (D := (dC, dI)) (ci := 0) (v := .int (σ.1 35 1)) (C := RX0) (T := TX0) (M := 5) (fs := (oAC ad (σ.1 35))) hx hb hts (fun _ h9 => List.mem_cons_of_mem _ (List.mem_append_right _ h9)) hown hK hP 35 (Nat.lt_of_lt_of_le (Nat.le_of_ble_eq_true rfl : 35 < 182) (Nat.le_add_right _ _)) (cC_35 _ _ _ _ _) rfl 1 (by decide) (hts (.fieldLink RX0 15 "SeatsRound$Acts" "ran" "I") (List.mem_of_getElem? (i := 1) rfl)) (fun _ h9 => h9) rfl dX0_begin_21 ?_
    refine lv_iconst (v := 1) hx hb dX0_begin_24 (by decide) ?_
    refine lv_iadd hx hb dX0_begin_25 ?_
    refine ux_put (D := (dC, dI)) (ci := 0) (C := RX0) (T := TX0) (M := 5) (fs := (oAC ad (σ.1 35))) hx hb hts (fun _ h9 => List.mem_cons_of_mem _ (List.mem_append_right _ h9)) tyX0 tyX0_ok nmX0 hown hK hP hD hS 35 (Nat.lt_of_lt_of_le (Nat.le_of_ble_eq_true rfl : 35 < 182) (Nat.le_add_right _ _)) (cC_35 _ _ _ _ _) rfl 1 (by decide) (hts (.fieldLink RX0 15 "SeatsRound$Acts" "ran" "I") (List.mem_of_getElem? (i := 1) rfl)) (fun _ h9 => h9) rfl (tyX0_ok 1 (by decide)) rfl rfl (Nat.le_of_ble_eq_true rfl) (oC_35_1 _ _ _ _ _ _) h dX0_begin_26 (fun σ1 H locs h hP hD hS => ?_)
    exact ux_vret hx hb hr h hP hD hS hlocks dX0_begin_29
  have w0 : ∀ (σ : S2) (x1 : Int32) (H : Heap) (locs : List Loc) (ls : Array Slot), fX0_begin_0 τ σ x1 = some (r0, σ9) → va_P (dC, dI) vwCl (wG (cC cy ad τ) ad (182 + 6 * nb) σ) H → va_D A (wG (cC cy ad τ) ad (182 + 6 * nb) σ) → va_S A s.heap H locs → lv_has ls 2 [(0, .ref (ad 35)), (1, .int x1)] → W p l e (headSpec wsX0_begin ({ frames := 1, cells := 0, slots := 0, locals := 23 })).room s m (#[.ref (ad 35), .int a1]) below meth c H locs 0 0 (MQ below (va_Qv (fun (_ : Unit) => True) (fun (_ : Unit) t => wAt (dC, dI) A (wG (cC cy ad τ) ad (182 + 6 * nb) σ9) t) A) (#[.ref (ad 35), .int a1]) s 0 0 A) (F0 m 0 ls []) := by
    intro σ x1 H locs ls h hP hD hS hl
    unfold fX0_begin_0 at h
    refine lv_aload_n hx hb dX0_begin_0 rfl (lv_at hl 0 rfl) ?_
    refine ux_get (D := (dC, dI)) (ci := 0) (v := .int (σ.1 35 1)) (C := RX0) (T := TX0) (M := 5) (fs := (oAC ad (σ.1 35))) hx hb hts (fun _ h9 => List.mem_cons_of_mem _ (List.mem_append_right _ h9)) hown hK hP 35 (Nat.lt_of_lt_of_le (Nat.le_of_ble_eq_true rfl : 35 < 182) (Nat.le_add_right _ _)) (cC_35 _ _ _ _ _) rfl 1 (by decide) (hts (.fieldLink RX0 15 "SeatsRound$Acts" "ran" "I") (List.mem_of_getElem? (i := 1) rfl)) (fun _ h9 => h9) rfl dX0_begin_1 ?_
    refine lv_bipush (v := 24) hx hb dX0_begin_4 (by decide) ?_
    refine lv_icmp_ge (tgt := 19) hx hb dX0_begin_6 (by decide) (fun hcd => ?_) (fun hcd => ?_)
    · have h := cdP hcd h
      exact w19 σ H locs ls h hP hD hS (lv_sub hl [0] rfl)
    · have h := cdN hcd h
      refine lv_aload_n hx hb dX0_begin_9 rfl (lv_at hl 0 rfl) ?_
      refine ux_get (D := (dC, dI)) (ci := 0) (v := .ref (ad 36)) (C := RX0) (T := TX0) (M := 5) (fs := (oAC ad (σ.1 35))) hx hb hts (fun _ h9 => List.mem_cons_of_mem _ (List.mem_append_right _ h9)) hown hK hP 35 (Nat.lt_of_lt_of_le (Nat.le_of_ble_eq_true rfl : 35 < 182) (Nat.le_add_right _ _)) (cC_35 _ _ _ _ _) rfl 0 (by decide) (hts (.fieldLink RX0 9 "SeatsRound$Acts" "bodies" "[I") (List.mem_of_getElem? (i := 2) rfl)) (fun _ h9 => h9) rfl dX0_begin_10 ?_
      refine lv_aload_n hx hb dX0_begin_13 rfl (lv_at hl 0 rfl) ?_
      refine ux_get (D := (dC, dI)) (ci := 0) (v := .int (σ.1 35 1)) (C := RX0) (T := TX0) (M := 5) (fs := (oAC ad (σ.1 35))) hx hb hts (fun _ h9 => List.mem_cons_of_mem _ (List.mem_append_right _ h9)) hown hK hP 35 (Nat.lt_of_lt_of_le (Nat.le_of_ble_eq_true rfl : 35 < 182) (Nat.le_add_right _ _)) (cC_35 _ _ _ _ _) rfl 1 (by decide) (hts (.fieldLink RX0 15 "SeatsRound$Acts" "ran" "I") (List.mem_of_getElem? (i := 1) rfl)) (fun _ h9 => h9) rfl dX0_begin_14 ?_
      refine lv_iload_n hx hb dX0_begin_17 rfl (lv_at hl 1 rfl) ?_
      refine ux_iast hx hb hK hP hD hS 36 0 (Nat.lt_of_lt_of_le (Nat.le_of_ble_eq_true rfl : 36 < 182) (Nat.le_add_right _ _)) (fun _ => (cC_36 _ _ _ _ _)) rfl h dX0_begin_18 (fun σ2 H locs h hP hD hS => ?_)
      exact w19 σ2 H locs ls h hP hD hS (lv_sub hl [0] rfl)
  intro H locs ls h hP hD hS hl
  exact w0 σ a1 H locs ls h hP hD hS (lv_sub hl [0, 1] rfl)

set_option maxHeartbeats 4000000 in
set_option maxRecDepth 100000 in
theorem uX0_findsFrom (l : Launch) (dC : Nat → ClassId) (dI : Nat → Nat → Nat) (cy : Nat → ClassId) (ad : Nat → Nat) (d : Nat) (τ nb : Nat) (hτ : τ < nb) (qX0_findsFrom : S2 → Int32 → Int32 → Option (Int32 × S2)) (hqX0_findsFrom : ∀ (σ : S2) (a1 : Int32) (a2 : Int32) (sz : Nat) (r0 : Int32) (σ9 : S2), qX0_findsFrom σ a1 a2 = some (r0, σ9) → Met l yX0_findsFrom wsX0_findsFrom ({ frames := 2 + d, cells := 0, slots := 0, locals := 44 + 22 * d }) (va_Pc [.ref (ad 35), .int a1, .int a2] (wPre (dC, dI) cy (wG (cC cy ad τ) ad (182 + 6 * nb) σ) sz)) (va_Qi (fun (r : Int32) (_ : Unit) => r = r0) (fun (_ : Unit) t => wAt (dC, dI) (va_A (wG (cC cy ad τ) ad (182 + 6 * nb) σ) sz) (wG (cC cy ad τ) ad (182 + 6 * nb) σ9) t) (va_A (wG (cC cy ad τ) ad (182 + 6 * nb) σ) sz)) 0 0 (va_A (wG (cC cy ad τ) ad (182 + 6 * nb) σ) sz)) (σ : S2) (a1 : Int32) (a2 : Int32) (sz : Nat) (r0 : Int32) (σ9 : S2) (h : eX0_findsFrom τ qX0_findsFrom σ a1 a2 = some (r0, σ9)) : Met l yX0_findsFrom wsX0_findsFrom ({ frames := 2 + (d + 1), cells := 0, slots := 0, locals := 44 + 22 * (d + 1) }) (va_Pc [.ref (ad 35), .int a1, .int a2] (wPre (dC, dI) cy (wG (cC cy ad τ) ad (182 + 6 * nb) σ) sz)) (va_Qi (fun (r : Int32) (_ : Unit) => r = r0) (fun (_ : Unit) t => wAt (dC, dI) (va_A (wG (cC cy ad τ) ad (182 + 6 * nb) σ) sz) (wG (cC cy ad τ) ad (182 + 6 * nb) σ9) t) (va_A (wG (cC cy ad τ) ad (182 + 6 * nb) σ) sz)) 0 0 (va_A (wG (cC cy ad τ) ad (182 + 6 * nb) σ) sz) := by
  refine Met.ofW (cc := cX0_findsFrom) (maxL := 3) (ret := (some .int)) (by decide) rfl ?_
  intro p e s m args below meth c s₁ B hml hv
  obtain ⟨rfl, hsz, hP, hK, hD0, hN⟩ := hv
  have hx := B.exec
  have hb := B.bytes
  have hr := B.returns
  have hts := atoms_spec (ws := wsX0_findsFrom) B.pre
  have hown : s.vm.findClass RX0 = some m.cls := findClass_of_methodNamed B.named
  have hlocks := B.notSynchronized
  subst hsz
  have hD := hD0.self (sz := s.heap.size)
  generalize hAe : va_A (wG (cC cy ad τ) ad (182 + 6 * nb) σ) s.heap.size = A at hD ⊢
  have hA : ∀ q : Nat, s.heap.size ≤ q → A q := fun q h => by rw [← hAe]; exact Or.inr h
  have hS : va_S A s.heap s.heap [] := va_S.rf
  have hl := lv_entry ([.ref (ad 35), .int a1, .int a2]) (n := 3) (Nat.le_of_ble_eq_true rfl)
  rw [lg_entry_eq]
  generalize (lg_sl ([.ref (ad 35), .int a1, .int a2]) ++ List.replicate (3 - (lg_sl ([.ref (ad 35), .int a1, .int a2])).length) Slot.unset).toArray = ls at hl ⊢
  have hl : lv_has ls 3 [(0, .ref (ad 35)), (1, .int a1), (2, .int a2)] := hl
  unfold eX0_findsFrom at h
  clear hAe hD0
  suffices HH : ∀ (H : Heap) (locs : List Loc) (ls : Array Slot), fX0_findsFrom_0 τ qX0_findsFrom σ a1 a2 = some (r0, σ9) → va_P (dC, dI) vwCl (wG (cC cy ad τ) ad (182 + 6 * nb) σ) H → va_D A (wG (cC cy ad τ) ad (182 + 6 * nb) σ) → va_S A s.heap H locs → lv_has ls 3 [(0, .ref (ad 35)), (1, .int a1), (2, .int a2)] → W p l e (headSpec wsX0_findsFrom ({ frames := 2 + (d + 1), cells := 0, slots := 0, locals := 44 + 22 * (d + 1) })).room s m (#[.ref (ad 35), .int a1, .int a2]) below meth c H locs 0 0 (MQ below (va_Qi (fun (r : Int32) (_ : Unit) => r = r0) (fun (_ : Unit) t => wAt (dC, dI) A (wG (cC cy ad τ) ad (182 + 6 * nb) σ9) t) A) (#[.ref (ad 35), .int a1, .int a2]) s 0 0 A) (F0 m 0 ls []) from HH s.heap [] ls h hP hD hS hl
  have w0 : ∀ (σ : S2) (x1 : Int32) (x2 : Int32) (H : Heap) (locs : List Loc) (ls : Array Slot), fX0_findsFrom_0 τ qX0_findsFrom σ x1 x2 = some (r0, σ9) → va_P (dC, dI) vwCl (wG (cC cy ad τ) ad (182 + 6 * nb) σ) H → va_D A (wG (cC cy ad τ) ad (182 + 6 * nb) σ) → va_S A s.heap H locs → lv_has ls 3 [(0, .ref (ad 35)), (1, .int x1), (2, .int x2)] → W p l e (headSpec wsX0_findsFrom ({ frames := 2 + (d + 1), cells := 0, slots := 0, locals := 44 + 22 * (d + 1) })).room s m (#[.ref (ad 35), .int a1, .int a2]) below meth c H locs 0 0 (MQ below (va_Qi (fun (r : Int32) (_ : Unit) => r = r0) (fun (_ : Unit) t => wAt (dC, dI) A (wG (cC cy ad τ) ad (182 + 6 * nb) σ9) t) A) (#[.ref (ad 35), .int a1, .int a2]) s 0 0 A) (F0 m 0 ls []) := by
    intro σ x1 x2 H locs ls h hP hD hS hl
    unfold fX0_findsFrom_0 at h
    refine lv_iload_n hx hb dX0_findsFrom_0 rfl (lv_at hl 1 rfl) ?_
    by_cases hcd1 : x1 = 1
    · have h := cdP hcd1 h
      refine lv_lookup (off := 50) (tgt := 51) hx hb dX0_findsFrom_1 (by decide) (by rw [hcd1]; decide) (by decide) ?_
      refine lv_aload_n hx hb dX0_findsFrom_51 rfl (lv_at hl 0 rfl) ?_
      refine lv_bipush (v := 20) hx hb dX0_findsFrom_52 (by decide) ?_
      obtain ⟨r2, σ3, hf4, h⟩ := bsS h
      refine ux_callv (va_runV (As := [.int 20]) (rest := []) ⟨hx, hb, hml, hown, hts⟩ (tX0_begin l dC dI cy ad τ nb hτ σ 20 H.size r2 σ3 hf4) (cwV 1 hts gX0_findsFrom_X0_begin rfl rfl rfl (by decide +kernel) ⟨by show 1 + 1 ≤ 2 + (d + 1); omega, by show 8 + (2 + 11) + 23 ≤ 44 + 22 * (d + 1); omega⟩) (wp_V hK hN hP hD (va_recv hK hP (ci := 0) (q0 := 35) rfl (wG_of (Nat.lt_of_lt_of_le (Nat.le_of_ble_eq_true rfl : 35 < 182) (Nat.le_add_right _ _)) (cC_35 _ _ _ _ _)))) rfl rfl hl.1 rfl (lv_room (Nat.le_of_ble_eq_true rfl)) dX0_findsFrom_54 ⟨Nat.le_of_ble_eq_true rfl, Nat.le_of_ble_eq_true rfl⟩) hD hS hA (fun H locs hP hD hS => ?_)
      refine lv_aload_n hx hb dX0_findsFrom_57 rfl (lv_at hl 0 rfl) ?_
      refine lv_iconst (v := 0) hx hb dX0_findsFrom_58 (by decide) ?_
      refine lv_iload_n hx hb dX0_findsFrom_59 rfl (lv_at hl 2 rfl) ?_
      obtain ⟨r5, σ6, hf7, h⟩ := bsS h
      refine ux_calli (va_runV (As := [.int 0, .int x2]) (rest := []) ⟨hx, hb, hml, hown, hts⟩ (hqX0_findsFrom σ3 0 x2 H.size r5 σ6 hf7) (cwV 2 hts gX0_findsFrom_X0_findsFrom rfl rfl rfl (by decide +kernel) ⟨by show (2 + d) + 1 ≤ 2 + (d + 1); omega, by show 8 + (3 + 11) + (44 + 22 * d) ≤ 44 + 22 * (d + 1); omega⟩) (wp_V hK hN hP hD (va_recv hK hP (ci := 0) (q0 := 35) rfl (wG_of (Nat.lt_of_lt_of_le (Nat.le_of_ble_eq_true rfl : 35 < 182) (Nat.le_add_right _ _)) (cC_35 _ _ _ _ _)))) rfl rfl hl.1 rfl (lv_room (Nat.le_of_ble_eq_true rfl)) dX0_findsFrom_60 ⟨Nat.le_of_ble_eq_true rfl, Nat.le_of_ble_eq_true rfl⟩) hD hS hA (fun H locs hP hD hS => ?_)
      refine lv_aload_n hx hb dX0_findsFrom_63 rfl (lv_at hl 0 rfl) ?_
      refine ux_get (D := (dC, dI)) (ci := 0) (v := .int (σ6.1 35 4)) (C := RX0) (T := TX0) (M := 5) (fs := (oAC ad (σ6.1 35))) hx hb hts (fun _ h9 => List.mem_cons_of_mem _ (List.mem_append_right _ h9)) hown hK hP 35 (Nat.lt_of_lt_of_le (Nat.le_of_ble_eq_true rfl : 35 < 182) (Nat.le_add_right _ _)) (cC_35 _ _ _ _ _) rfl 4 (by decide) (hts (.fieldLink RX0 25 "SeatsRound$Acts" "strength" "I") (List.mem_of_getElem? (i := 1) rfl)) (fun _ h9 => h9) rfl dX0_findsFrom_64 ?_
      refine lv_iadd hx hb dX0_findsFrom_67 ?_
      exact ux_iret hx hb hr h hP hD hS hlocks dX0_findsFrom_68
    · have h := cdN hcd1 h
      by_cases hcd8 : x1 = 5
      · have h := cdP hcd8 h
        refine lv_lookup (off := 68) (tgt := 69) hx hb dX0_findsFrom_1 (by decide) (by rw [hcd8]; decide) (by decide) ?_
        refine lv_aload_n hx hb dX0_findsFrom_69 rfl (lv_at hl 0 rfl) ?_
        refine lv_bipush (v := 60) hx hb dX0_findsFrom_70 (by decide) ?_
        obtain ⟨r9, σ10, hf11, h⟩ := bsS h
        refine ux_callv (va_runV (As := [.int 60]) (rest := []) ⟨hx, hb, hml, hown, hts⟩ (tX0_begin l dC dI cy ad τ nb hτ σ 60 H.size r9 σ10 hf11) (cwV 1 hts gX0_findsFrom_X0_begin rfl rfl rfl (by decide +kernel) ⟨by show 1 + 1 ≤ 2 + (d + 1); omega, by show 8 + (2 + 11) + 23 ≤ 44 + 22 * (d + 1); omega⟩) (wp_V hK hN hP hD (va_recv hK hP (ci := 0) (q0 := 35) rfl (wG_of (Nat.lt_of_lt_of_le (Nat.le_of_ble_eq_true rfl : 35 < 182) (Nat.le_add_right _ _)) (cC_35 _ _ _ _ _)))) rfl rfl hl.1 rfl (lv_room (Nat.le_of_ble_eq_true rfl)) dX0_findsFrom_72 ⟨Nat.le_of_ble_eq_true rfl, Nat.le_of_ble_eq_true rfl⟩) hD hS hA (fun H locs hP hD hS => ?_)
        refine lv_aload_n hx hb dX0_findsFrom_75 rfl (lv_at hl 0 rfl) ?_
        refine lv_iconst (v := 0) hx hb dX0_findsFrom_76 (by decide) ?_
        refine lv_iload_n hx hb dX0_findsFrom_77 rfl (lv_at hl 2 rfl) ?_
        refine lv_iconst (v := 1) hx hb dX0_findsFrom_78 (by decide) ?_
        refine lv_iadd hx hb dX0_findsFrom_79 ?_
        obtain ⟨r12, σ13, hf14, h⟩ := bsS h
        refine ux_calli (va_runV (As := [.int 0, .int (x2 + 1)]) (rest := []) ⟨hx, hb, hml, hown, hts⟩ (hqX0_findsFrom σ10 0 (x2 + 1) H.size r12 σ13 hf14) (cwV 2 hts gX0_findsFrom_X0_findsFrom rfl rfl rfl (by decide +kernel) ⟨by show (2 + d) + 1 ≤ 2 + (d + 1); omega, by show 8 + (3 + 11) + (44 + 22 * d) ≤ 44 + 22 * (d + 1); omega⟩) (wp_V hK hN hP hD (va_recv hK hP (ci := 0) (q0 := 35) rfl (wG_of (Nat.lt_of_lt_of_le (Nat.le_of_ble_eq_true rfl : 35 < 182) (Nat.le_add_right _ _)) (cC_35 _ _ _ _ _)))) rfl rfl hl.1 rfl (lv_room (Nat.le_of_ble_eq_true rfl)) dX0_findsFrom_80 ⟨Nat.le_of_ble_eq_true rfl, Nat.le_of_ble_eq_true rfl⟩) hD hS hA (fun H locs hP hD hS => ?_)
        exact ux_iret hx hb hr h hP hD hS hlocks dX0_findsFrom_83
      · have h := cdN hcd8 h
        by_cases hcd15 : x1 = 6
        · have h := cdP hcd15 h
          refine lv_lookup (off := 35) (tgt := 36) hx hb dX0_findsFrom_1 (by decide) (by rw [hcd15]; decide) (by decide) ?_
          refine lv_aload_n hx hb dX0_findsFrom_36 rfl (lv_at hl 0 rfl) ?_
          refine lv_bipush (v := 71) hx hb dX0_findsFrom_37 (by decide) ?_
          obtain ⟨r16, σ17, hf18, h⟩ := bsS h
          refine ux_callv (va_runV (As := [.int 71]) (rest := []) ⟨hx, hb, hml, hown, hts⟩ (tX0_begin l dC dI cy ad τ nb hτ σ 71 H.size r16 σ17 hf18) (cwV 1 hts gX0_findsFrom_X0_begin rfl rfl rfl (by decide +kernel) ⟨by show 1 + 1 ≤ 2 + (d + 1); omega, by show 8 + (2 + 11) + 23 ≤ 44 + 22 * (d + 1); omega⟩) (wp_V hK hN hP hD (va_recv hK hP (ci := 0) (q0 := 35) rfl (wG_of (Nat.lt_of_lt_of_le (Nat.le_of_ble_eq_true rfl : 35 < 182) (Nat.le_add_right _ _)) (cC_35 _ _ _ _ _)))) rfl rfl hl.1 rfl (lv_room (Nat.le_of_ble_eq_true rfl)) dX0_findsFrom_39 ⟨Nat.le_of_ble_eq_true rfl, Nat.le_of_ble_eq_true rfl⟩) hD hS hA (fun H locs hP hD hS => ?_)
          refine lv_aload_n hx hb dX0_findsFrom_42 rfl (lv_at hl 0 rfl) ?_
          refine lv_iconst (v := 1) hx hb dX0_findsFrom_43 (by decide) ?_
          refine lv_iload_n hx hb dX0_findsFrom_44 rfl (lv_at hl 2 rfl) ?_
          obtain ⟨r19, σ20, hf21, h⟩ := bsS h
          refine ux_calli (va_runV (As := [.int 1, .int x2]) (rest := []) ⟨hx, hb, hml, hown, hts⟩ (hqX0_findsFrom σ17 1 x2 H.size r19 σ20 hf21) (cwV 2 hts gX0_findsFrom_X0_findsFrom rfl rfl rfl (by decide +kernel) ⟨by show (2 + d) + 1 ≤ 2 + (d + 1); omega, by show 8 + (3 + 11) + (44 + 22 * d) ≤ 44 + 22 * (d + 1); omega⟩) (wp_V hK hN hP hD (va_recv hK hP (ci := 0) (q0 := 35) rfl (wG_of (Nat.lt_of_lt_of_le (Nat.le_of_ble_eq_true rfl : 35 < 182) (Nat.le_add_right _ _)) (cC_35 _ _ _ _ _)))) rfl rfl hl.1 rfl (lv_room (Nat.le_of_ble_eq_true rfl)) dX0_findsFrom_45 ⟨Nat.le_of_ble_eq_true rfl, Nat.le_of_ble_eq_true rfl⟩) hD hS hA (fun H locs hP hD hS => ?_)
          refine lv_iconst (v := 2) hx hb dX0_findsFrom_48 (by decide) ?_
          refine lv_imul hx hb dX0_findsFrom_49 ?_
          exact ux_iret hx hb hr h hP hD hS hlocks dX0_findsFrom_50
        · have h := cdN hcd15 h
          refine lv_lookup (off := 83) (tgt := 84) hx hb dX0_findsFrom_1 (by decide) ((lv_osw hcd1 (by decide)).trans ((lv_osw hcd8 (by decide)).trans ((lv_osw hcd15 (by decide)).trans rfl))) (by decide) ?_
          refine lv_aload_n hx hb dX0_findsFrom_84 rfl (lv_at hl 0 rfl) ?_
          refine lv_iconst (v := 1) hx hb dX0_findsFrom_85 (by decide) ?_
          obtain ⟨r22, σ23, hf24, h⟩ := bsS h
          refine ux_callv (va_runV (As := [.int 1]) (rest := []) ⟨hx, hb, hml, hown, hts⟩ (tX0_begin l dC dI cy ad τ nb hτ σ 1 H.size r22 σ23 hf24) (cwV 1 hts gX0_findsFrom_X0_begin rfl rfl rfl (by decide +kernel) ⟨by show 1 + 1 ≤ 2 + (d + 1); omega, by show 8 + (2 + 11) + 23 ≤ 44 + 22 * (d + 1); omega⟩) (wp_V hK hN hP hD (va_recv hK hP (ci := 0) (q0 := 35) rfl (wG_of (Nat.lt_of_lt_of_le (Nat.le_of_ble_eq_true rfl : 35 < 182) (Nat.le_add_right _ _)) (cC_35 _ _ _ _ _)))) rfl rfl hl.1 rfl (lv_room (Nat.le_of_ble_eq_true rfl)) dX0_findsFrom_86 ⟨Nat.le_of_ble_eq_true rfl, Nat.le_of_ble_eq_true rfl⟩) hD hS hA (fun H locs hP hD hS => ?_)
          refine lv_iload_n hx hb dX0_findsFrom_89 rfl (lv_at hl 2 rfl) ?_
          refine lv_aload_n hx hb dX0_findsFrom_90 rfl (lv_at hl 0 rfl) ?_
          refine ux_get (D := (dC, dI)) (ci := 0) (v := .int (σ23.1 35 3)) (C := RX0) (T := TX0) (M := 5) (fs := (oAC ad (σ23.1 35))) hx hb hts (fun _ h9 => List.mem_cons_of_mem _ (List.mem_append_right _ h9)) hown hK hP 35 (Nat.lt_of_lt_of_le (Nat.le_of_ble_eq_true rfl : 35 < 182) (Nat.le_add_right _ _)) (cC_35 _ _ _ _ _) rfl 3 (by decide) (hts (.fieldLink RX0 22 "SeatsRound$Acts" "number" "I") (List.mem_of_getElem? (i := 2) rfl)) (fun _ h9 => h9) rfl dX0_findsFrom_91 ?_
          refine lv_iadd hx hb dX0_findsFrom_94 ?_
          exact ux_iret hx hb hr h hP hD hS hlocks dX0_findsFrom_95
  intro H locs ls h hP hD hS hl
  exact w0 σ a1 a2 H locs ls h hP hD hS (lv_sub hl [0, 1, 2] rfl)

set_option maxRecDepth 100000 in
theorem gGX0_findsFrom (l : Launch) (dC : Nat → ClassId) (dI : Nat → Nat → Nat) (cy : Nat → ClassId) (ad : Nat → Nat) (τ nb : Nat) (hτ : τ < nb) (d : Nat) : (∀ (σ : S2) (a1 : Int32) (a2 : Int32) (sz : Nat) (r0 : Int32) (σ9 : S2), GX0_findsFrom τ d 0 σ a1 a2 = some (r0, σ9) → Met l yX0_findsFrom wsX0_findsFrom ({ frames := 2 + d, cells := 0, slots := 0, locals := 44 + 22 * d }) (va_Pc [.ref (ad 35), .int a1, .int a2] (wPre (dC, dI) cy (wG (cC cy ad τ) ad (182 + 6 * nb) σ) sz)) (va_Qi (fun (r : Int32) (_ : Unit) => r = r0) (fun (_ : Unit) t => wAt (dC, dI) (va_A (wG (cC cy ad τ) ad (182 + 6 * nb) σ) sz) (wG (cC cy ad τ) ad (182 + 6 * nb) σ9) t) (va_A (wG (cC cy ad τ) ad (182 + 6 * nb) σ) sz)) 0 0 (va_A (wG (cC cy ad τ) ad (182 + 6 * nb) σ) sz)) := by
  induction d with
  | zero => exact (by intros; contradiction)
  | succ d ih =>
    exact (fun σ a1 a2 sz r0 σ9 h => uX0_findsFrom l dC dI cy ad d τ nb hτ _ (ih) σ a1 a2 sz r0 σ9 h)

theorem tX0_findsFrom (l : Launch) (dC : Nat → ClassId) (dI : Nat → Nat → Nat) (cy : Nat → ClassId) (ad : Nat → Nat) (τ nb : Nat) (hτ : τ < nb) : ∀ (σ : S2) (a1 : Int32) (a2 : Int32) (sz : Nat) (r0 : Int32) (σ9 : S2), fX0_findsFrom τ σ a1 a2 = some (r0, σ9) → Met l yX0_findsFrom wsX0_findsFrom ({ frames := 26, cells := 0, slots := 0, locals := 572 }) (va_Pc [.ref (ad 35), .int a1, .int a2] (wPre (dC, dI) cy (wG (cC cy ad τ) ad (182 + 6 * nb) σ) sz)) (va_Qi (fun (r : Int32) (_ : Unit) => r = r0) (fun (_ : Unit) t => wAt (dC, dI) (va_A (wG (cC cy ad τ) ad (182 + 6 * nb) σ) sz) (wG (cC cy ad τ) ad (182 + 6 * nb) σ9) t) (va_A (wG (cC cy ad τ) ad (182 + 6 * nb) σ) sz)) 0 0 (va_A (wG (cC cy ad τ) ad (182 + 6 * nb) σ) sz) := (gGX0_findsFrom l dC dI cy ad τ nb hτ 24)

set_option maxHeartbeats 4000000 in
set_option maxRecDepth 100000 in
theorem uX0_movesFrom (l : Launch) (dC : Nat → ClassId) (dI : Nat → Nat → Nat) (cy : Nat → ClassId) (ad : Nat → Nat) (d : Nat) (τ nb : Nat) (hτ : τ < nb) (qX0_movesFrom : S2 → Int32 → Int32 → Option (Int32 × S2)) (hqX0_movesFrom : ∀ (σ : S2) (a1 : Int32) (a2 : Int32) (sz : Nat) (r0 : Int32) (σ9 : S2), qX0_movesFrom σ a1 a2 = some (r0, σ9) → Met l yX0_movesFrom wsX0_movesFrom ({ frames := 27 + d, cells := 0, slots := 0, locals := 594 + 23 * d }) (va_Pc [.ref (ad 35), .int a1, .int a2] (wPre (dC, dI) cy (wG (cC cy ad τ) ad (182 + 6 * nb) σ) sz)) (va_Qi (fun (r : Int32) (_ : Unit) => r = r0) (fun (_ : Unit) t => wAt (dC, dI) (va_A (wG (cC cy ad τ) ad (182 + 6 * nb) σ) sz) (wG (cC cy ad τ) ad (182 + 6 * nb) σ9) t) (va_A (wG (cC cy ad τ) ad (182 + 6 * nb) σ) sz)) 0 0 (va_A (wG (cC cy ad τ) ad (182 + 6 * nb) σ) sz)) (σ : S2) (a1 : Int32) (a2 : Int32) (sz : Nat) (r0 : Int32) (σ9 : S2) (h : eX0_movesFrom τ qX0_movesFrom σ a1 a2 = some (r0, σ9)) : Met l yX0_movesFrom wsX0_movesFrom ({ frames := 27 + (d + 1), cells := 0, slots := 0, locals := 594 + 23 * (d + 1) }) (va_Pc [.ref (ad 35), .int a1, .int a2] (wPre (dC, dI) cy (wG (cC cy ad τ) ad (182 + 6 * nb) σ) sz)) (va_Qi (fun (r : Int32) (_ : Unit) => r = r0) (fun (_ : Unit) t => wAt (dC, dI) (va_A (wG (cC cy ad τ) ad (182 + 6 * nb) σ) sz) (wG (cC cy ad τ) ad (182 + 6 * nb) σ9) t) (va_A (wG (cC cy ad τ) ad (182 + 6 * nb) σ) sz)) 0 0 (va_A (wG (cC cy ad τ) ad (182 + 6 * nb) σ) sz) := by
  refine Met.ofW (cc := cX0_movesFrom) (maxL := 4) (ret := (some .int)) (by decide) rfl ?_
  intro p e s m args below meth c s₁ B hml hv
  obtain ⟨rfl, hsz, hP, hK, hD0, hN⟩ := hv
  have hx := B.exec
  have hb := B.bytes
  have hr := B.returns
  have hts := atoms_spec (ws := wsX0_movesFrom) B.pre
  have hown : s.vm.findClass RX0 = some m.cls := findClass_of_methodNamed B.named
  have hlocks := B.notSynchronized
  subst hsz
  have hD := hD0.self (sz := s.heap.size)
  generalize hAe : va_A (wG (cC cy ad τ) ad (182 + 6 * nb) σ) s.heap.size = A at hD ⊢
  have hA : ∀ q : Nat, s.heap.size ≤ q → A q := fun q h => by rw [← hAe]; exact Or.inr h
  have hS : va_S A s.heap s.heap [] := va_S.rf
  have hl := lv_entry ([.ref (ad 35), .int a1, .int a2]) (n := 4) (Nat.le_of_ble_eq_true rfl)
  rw [lg_entry_eq]
  generalize (lg_sl ([.ref (ad 35), .int a1, .int a2]) ++ List.replicate (4 - (lg_sl ([.ref (ad 35), .int a1, .int a2])).length) Slot.unset).toArray = ls at hl ⊢
  have hl : lv_has ls 4 [(0, .ref (ad 35)), (1, .int a1), (2, .int a2)] := hl
  unfold eX0_movesFrom at h
  clear hAe hD0
  suffices HH : ∀ (H : Heap) (locs : List Loc) (ls : Array Slot), fX0_movesFrom_0 τ qX0_movesFrom σ a1 a2 = some (r0, σ9) → va_P (dC, dI) vwCl (wG (cC cy ad τ) ad (182 + 6 * nb) σ) H → va_D A (wG (cC cy ad τ) ad (182 + 6 * nb) σ) → va_S A s.heap H locs → lv_has ls 4 [(0, .ref (ad 35)), (1, .int a1), (2, .int a2)] → W p l e (headSpec wsX0_movesFrom ({ frames := 27 + (d + 1), cells := 0, slots := 0, locals := 594 + 23 * (d + 1) })).room s m (#[.ref (ad 35), .int a1, .int a2]) below meth c H locs 0 0 (MQ below (va_Qi (fun (r : Int32) (_ : Unit) => r = r0) (fun (_ : Unit) t => wAt (dC, dI) A (wG (cC cy ad τ) ad (182 + 6 * nb) σ9) t) A) (#[.ref (ad 35), .int a1, .int a2]) s 0 0 A) (F0 m 0 ls []) from HH s.heap [] ls h hP hD hS hl
  have w0 : ∀ (σ : S2) (x1 : Int32) (x2 : Int32) (H : Heap) (locs : List Loc) (ls : Array Slot), fX0_movesFrom_0 τ qX0_movesFrom σ x1 x2 = some (r0, σ9) → va_P (dC, dI) vwCl (wG (cC cy ad τ) ad (182 + 6 * nb) σ) H → va_D A (wG (cC cy ad τ) ad (182 + 6 * nb) σ) → va_S A s.heap H locs → lv_has ls 4 [(0, .ref (ad 35)), (1, .int x1), (2, .int x2)] → W p l e (headSpec wsX0_movesFrom ({ frames := 27 + (d + 1), cells := 0, slots := 0, locals := 594 + 23 * (d + 1) })).room s m (#[.ref (ad 35), .int a1, .int a2]) below meth c H locs 0 0 (MQ below (va_Qi (fun (r : Int32) (_ : Unit) => r = r0) (fun (_ : Unit) t => wAt (dC, dI) A (wG (cC cy ad τ) ad (182 + 6 * nb) σ9) t) A) (#[.ref (ad 35), .int a1, .int a2]) s 0 0 A) (F0 m 0 ls []) := by
    intro σ x1 x2 H locs ls h hP hD hS hl
    unfold fX0_movesFrom_0 at h
    refine lv_iload_n hx hb dX0_movesFrom_0 rfl (lv_at hl 1 rfl) ?_
    by_cases hcd1 : x1 = 2
    · have h := cdP hcd1 h
      refine lv_lookup (off := 27) (tgt := 28) hx hb dX0_movesFrom_1 (by decide) (by rw [hcd1]; decide) (by decide) ?_
      refine lv_aload_n hx hb dX0_movesFrom_28 rfl (lv_at hl 0 rfl) ?_
      refine lv_bipush (v := 30) hx hb dX0_movesFrom_29 (by decide) ?_
      obtain ⟨r2, σ3, hf4, h⟩ := bsS h
      refine ux_callv (va_runV (As := [.int 30]) (rest := []) ⟨hx, hb, hml, hown, hts⟩ (tX0_begin l dC dI cy ad τ nb hτ σ 30 H.size r2 σ3 hf4) (cwV 1 hts gX0_movesFrom_X0_begin rfl rfl rfl (by decide +kernel) ⟨by show 1 + 1 ≤ 27 + (d + 1); omega, by show 8 + (2 + 11) + 23 ≤ 594 + 23 * (d + 1); omega⟩) (wp_V hK hN hP hD (va_recv hK hP (ci := 0) (q0 := 35) rfl (wG_of (Nat.lt_of_lt_of_le (Nat.le_of_ble_eq_true rfl : 35 < 182) (Nat.le_add_right _ _)) (cC_35 _ _ _ _ _)))) rfl rfl hl.1 rfl (lv_room (Nat.le_of_ble_eq_true rfl)) dX0_movesFrom_31 ⟨Nat.le_of_ble_eq_true rfl, Nat.le_of_ble_eq_true rfl⟩) hD hS hA (fun H locs hP hD hS => ?_)
      refine lv_aload_n hx hb dX0_movesFrom_34 rfl (lv_at hl 0 rfl) ?_
      refine lv_iconst (v := 0) hx hb dX0_movesFrom_35 (by decide) ?_
      refine lv_iload_n hx hb dX0_movesFrom_36 rfl (lv_at hl 2 rfl) ?_
      obtain ⟨r5, σ6, hf7, h⟩ := bsS h
      refine ux_calli (va_runV (As := [.int 0, .int x2]) (rest := []) ⟨hx, hb, hml, hown, hts⟩ (hqX0_movesFrom σ3 0 x2 H.size r5 σ6 hf7) (cwV 2 hts gX0_movesFrom_X0_movesFrom rfl rfl rfl (by decide +kernel) ⟨by show (27 + d) + 1 ≤ 27 + (d + 1); omega, by show 8 + (4 + 11) + (594 + 23 * d) ≤ 594 + 23 * (d + 1); omega⟩) (wp_V hK hN hP hD (va_recv hK hP (ci := 0) (q0 := 35) rfl (wG_of (Nat.lt_of_lt_of_le (Nat.le_of_ble_eq_true rfl : 35 < 182) (Nat.le_add_right _ _)) (cC_35 _ _ _ _ _)))) rfl rfl hl.1 rfl (lv_room (Nat.le_of_ble_eq_true rfl)) dX0_movesFrom_37 ⟨Nat.le_of_ble_eq_true rfl, Nat.le_of_ble_eq_true rfl⟩) hD hS hA (fun H locs hP hD hS => ?_)
      refine lv_iconst (v := 3) hx hb dX0_movesFrom_40 (by decide) ?_
      refine lv_imul hx hb dX0_movesFrom_41 ?_
      exact ux_iret hx hb hr h hP hD hS hlocks dX0_movesFrom_42
    · have h := cdN hcd1 h
      by_cases hcd8 : x1 = 5
      · have h := cdP hcd8 h
        refine lv_lookup (off := 42) (tgt := 43) hx hb dX0_movesFrom_1 (by decide) (by rw [hcd8]; decide) (by decide) ?_
        refine lv_aload_n hx hb dX0_movesFrom_43 rfl (lv_at hl 0 rfl) ?_
        refine lv_bipush (v := 61) hx hb dX0_movesFrom_44 (by decide) ?_
        obtain ⟨r9, σ10, hf11, h⟩ := bsS h
        refine ux_callv (va_runV (As := [.int 61]) (rest := []) ⟨hx, hb, hml, hown, hts⟩ (tX0_begin l dC dI cy ad τ nb hτ σ 61 H.size r9 σ10 hf11) (cwV 1 hts gX0_movesFrom_X0_begin rfl rfl rfl (by decide +kernel) ⟨by show 1 + 1 ≤ 27 + (d + 1); omega, by show 8 + (2 + 11) + 23 ≤ 594 + 23 * (d + 1); omega⟩) (wp_V hK hN hP hD (va_recv hK hP (ci := 0) (q0 := 35) rfl (wG_of (Nat.lt_of_lt_of_le (Nat.le_of_ble_eq_true rfl : 35 < 182) (Nat.le_add_right _ _)) (cC_35 _ _ _ _ _)))) rfl rfl hl.1 rfl (lv_room (Nat.le_of_ble_eq_true rfl)) dX0_movesFrom_46 ⟨Nat.le_of_ble_eq_true rfl, Nat.le_of_ble_eq_true rfl⟩) hD hS hA (fun H locs hP hD hS => ?_)
        refine lv_aload_n hx hb dX0_movesFrom_49 rfl (lv_at hl 0 rfl) ?_
        refine lv_iconst (v := 0) hx hb dX0_movesFrom_50 (by decide) ?_
        refine lv_iload_n hx hb dX0_movesFrom_51 rfl (lv_at hl 2 rfl) ?_
        obtain ⟨r12, σ13, hf14, h⟩ := bsS h
        refine ux_calli (va_runV (As := [.int 0, .int x2]) (rest := []) ⟨hx, hb, hml, hown, hts⟩ (hqX0_movesFrom σ10 0 x2 H.size r12 σ13 hf14) (cwV 2 hts gX0_movesFrom_X0_movesFrom rfl rfl rfl (by decide +kernel) ⟨by show (27 + d) + 1 ≤ 27 + (d + 1); omega, by show 8 + (4 + 11) + (594 + 23 * d) ≤ 594 + 23 * (d + 1); omega⟩) (wp_V hK hN hP hD (va_recv hK hP (ci := 0) (q0 := 35) rfl (wG_of (Nat.lt_of_lt_of_le (Nat.le_of_ble_eq_true rfl : 35 < 182) (Nat.le_add_right _ _)) (cC_35 _ _ _ _ _)))) rfl rfl hl.1 rfl (lv_room (Nat.le_of_ble_eq_true rfl)) dX0_movesFrom_52 ⟨Nat.le_of_ble_eq_true rfl, Nat.le_of_ble_eq_true rfl⟩) hD hS hA (fun H locs hP hD hS => ?_)
        refine lv_istore_n (lv' := [(3, .int r12), (0, .ref (ad 35)), (1, .int x1), (2, .int x2)]) hx hb dX0_movesFrom_55 rfl hl (by decide) rfl (fun ls hl => ?_)
        have hl := lv_sub hl [1, 2, 3, 0] (l' := [(0, .ref (ad 35)), (1, .int x1), (2, .int x2), (3, .int r12)]) rfl
        refine lv_iload_n hx hb dX0_movesFrom_56 rfl (lv_at hl 3 rfl) ?_
        refine lv_aload_n hx hb dX0_movesFrom_57 rfl (lv_at hl 0 rfl) ?_
        refine lv_aload_n hx hb dX0_movesFrom_58 rfl (lv_at hl 0 rfl) ?_
        refine ux_get (D := (dC, dI)) (ci := 0) (v := .int (σ13.1 35 2)) (C := RX0) (T := TX0) (M := 5) (fs := (oAC ad (σ13.1 35))) hx hb hts (fun _ h9 => List.mem_cons_of_mem _ (List.mem_append_right _ h9)) hown hK hP 35 (Nat.lt_of_lt_of_le (Nat.le_of_ble_eq_true rfl : 35 < 182) (Nat.le_add_right _ _)) (cC_35 _ _ _ _ _) rfl 2 (by decide) (hts (.fieldLink RX0 19 "SeatsRound$Acts" "own" "I") (List.mem_of_getElem? (i := 1) rfl)) (fun _ h9 => h9) rfl dX0_movesFrom_59 ?_
        refine lv_iconst (v := 2) hx hb dX0_movesFrom_62 (by decide) ?_
        obtain ⟨r15, σ16, hf17, h⟩ := bsS h
        refine ux_calli (va_runV (As := [.int (σ13.1 35 2), .int 2]) (rest := [.int r12]) ⟨hx, hb, hml, hown, hts⟩ (tX0_findsFrom l dC dI cy ad τ nb hτ σ13 (σ13.1 35 2) 2 H.size r15 σ16 hf17) (cwV 2 hts gX0_movesFrom_X0_findsFrom rfl rfl rfl (by decide +kernel) ⟨by show 26 + 1 ≤ 27 + (d + 1); omega, by show 8 + (3 + 11) + 572 ≤ 594 + 23 * (d + 1); omega⟩) (wp_V hK hN hP hD (va_recv hK hP (ci := 0) (q0 := 35) rfl (wG_of (Nat.lt_of_lt_of_le (Nat.le_of_ble_eq_true rfl : 35 < 182) (Nat.le_add_right _ _)) (cC_35 _ _ _ _ _)))) rfl rfl hl.1 rfl (lv_room (Nat.le_of_ble_eq_true rfl)) dX0_movesFrom_63 ⟨Nat.le_of_ble_eq_true rfl, Nat.le_of_ble_eq_true rfl⟩) hD hS hA (fun H locs hP hD hS => ?_)
        refine lv_isub hx hb dX0_movesFrom_66 ?_
        exact ux_iret hx hb hr h hP hD hS hlocks dX0_movesFrom_67
      · have h := cdN hcd8 h
        refine lv_lookup (off := 67) (tgt := 68) hx hb dX0_movesFrom_1 (by decide) ((lv_osw hcd1 (by decide)).trans ((lv_osw hcd8 (by decide)).trans rfl)) (by decide) ?_
        refine lv_aload_n hx hb dX0_movesFrom_68 rfl (lv_at hl 0 rfl) ?_
        refine lv_bipush (v := 11) hx hb dX0_movesFrom_69 (by decide) ?_
        obtain ⟨r18, σ19, hf20, h⟩ := bsS h
        refine ux_callv (va_runV (As := [.int 11]) (rest := []) ⟨hx, hb, hml, hown, hts⟩ (tX0_begin l dC dI cy ad τ nb hτ σ 11 H.size r18 σ19 hf20) (cwV 1 hts gX0_movesFrom_X0_begin rfl rfl rfl (by decide +kernel) ⟨by show 1 + 1 ≤ 27 + (d + 1); omega, by show 8 + (2 + 11) + 23 ≤ 594 + 23 * (d + 1); omega⟩) (wp_V hK hN hP hD (va_recv hK hP (ci := 0) (q0 := 35) rfl (wG_of (Nat.lt_of_lt_of_le (Nat.le_of_ble_eq_true rfl : 35 < 182) (Nat.le_add_right _ _)) (cC_35 _ _ _ _ _)))) rfl rfl hl.1 rfl (lv_room (Nat.le_of_ble_eq_true rfl)) dX0_movesFrom_71 ⟨Nat.le_of_ble_eq_true rfl, Nat.le_of_ble_eq_true rfl⟩) hD hS hA (fun H locs hP hD hS => ?_)
        refine lv_iload_n hx hb dX0_movesFrom_74 rfl (lv_at hl 2 rfl) ?_
        refine lv_aload_n hx hb dX0_movesFrom_75 rfl (lv_at hl 0 rfl) ?_
        refine ux_get (D := (dC, dI)) (ci := 0) (v := .int (σ19.1 35 3)) (C := RX0) (T := TX0) (M := 5) (fs := (oAC ad (σ19.1 35))) hx hb hts (fun _ h9 => List.mem_cons_of_mem _ (List.mem_append_right _ h9)) hown hK hP 35 (Nat.lt_of_lt_of_le (Nat.le_of_ble_eq_true rfl : 35 < 182) (Nat.le_add_right _ _)) (cC_35 _ _ _ _ _) rfl 3 (by decide) (hts (.fieldLink RX0 22 "SeatsRound$Acts" "number" "I") (List.mem_of_getElem? (i := 2) rfl)) (fun _ h9 => h9) rfl dX0_movesFrom_76 ?_
        refine lv_ixor hx hb dX0_movesFrom_79 ?_
        exact ux_iret hx hb hr h hP hD hS hlocks dX0_movesFrom_80
  intro H locs ls h hP hD hS hl
  exact w0 σ a1 a2 H locs ls h hP hD hS (lv_sub hl [0, 1, 2] rfl)

set_option maxRecDepth 100000 in
theorem gGX0_movesFrom (l : Launch) (dC : Nat → ClassId) (dI : Nat → Nat → Nat) (cy : Nat → ClassId) (ad : Nat → Nat) (τ nb : Nat) (hτ : τ < nb) (d : Nat) : (∀ (σ : S2) (a1 : Int32) (a2 : Int32) (sz : Nat) (r0 : Int32) (σ9 : S2), GX0_movesFrom τ d 0 σ a1 a2 = some (r0, σ9) → Met l yX0_movesFrom wsX0_movesFrom ({ frames := 27 + d, cells := 0, slots := 0, locals := 594 + 23 * d }) (va_Pc [.ref (ad 35), .int a1, .int a2] (wPre (dC, dI) cy (wG (cC cy ad τ) ad (182 + 6 * nb) σ) sz)) (va_Qi (fun (r : Int32) (_ : Unit) => r = r0) (fun (_ : Unit) t => wAt (dC, dI) (va_A (wG (cC cy ad τ) ad (182 + 6 * nb) σ) sz) (wG (cC cy ad τ) ad (182 + 6 * nb) σ9) t) (va_A (wG (cC cy ad τ) ad (182 + 6 * nb) σ) sz)) 0 0 (va_A (wG (cC cy ad τ) ad (182 + 6 * nb) σ) sz)) := by
  induction d with
  | zero => exact (by intros; contradiction)
  | succ d ih =>
    exact (fun σ a1 a2 sz r0 σ9 h => uX0_movesFrom l dC dI cy ad d τ nb hτ _ (ih) σ a1 a2 sz r0 σ9 h)

theorem tX0_movesFrom (l : Launch) (dC : Nat → ClassId) (dI : Nat → Nat → Nat) (cy : Nat → ClassId) (ad : Nat → Nat) (τ nb : Nat) (hτ : τ < nb) : ∀ (σ : S2) (a1 : Int32) (a2 : Int32) (sz : Nat) (r0 : Int32) (σ9 : S2), fX0_movesFrom τ σ a1 a2 = some (r0, σ9) → Met l yX0_movesFrom wsX0_movesFrom ({ frames := 51, cells := 0, slots := 0, locals := 1146 }) (va_Pc [.ref (ad 35), .int a1, .int a2] (wPre (dC, dI) cy (wG (cC cy ad τ) ad (182 + 6 * nb) σ) sz)) (va_Qi (fun (r : Int32) (_ : Unit) => r = r0) (fun (_ : Unit) t => wAt (dC, dI) (va_A (wG (cC cy ad τ) ad (182 + 6 * nb) σ) sz) (wG (cC cy ad τ) ad (182 + 6 * nb) σ9) t) (va_A (wG (cC cy ad τ) ad (182 + 6 * nb) σ) sz)) 0 0 (va_A (wG (cC cy ad τ) ad (182 + 6 * nb) σ) sz) := (gGX0_movesFrom l dC dI cy ad τ nb hτ 24)

set_option maxHeartbeats 4000000 in
set_option maxRecDepth 100000 in
theorem uX0_keepsFrom (l : Launch) (dC : Nat → ClassId) (dI : Nat → Nat → Nat) (cy : Nat → ClassId) (ad : Nat → Nat) (d : Nat) (τ nb : Nat) (hτ : τ < nb) (qX0_keepsFrom : S2 → Int32 → Int32 → Option (Int32 × S2)) (hqX0_keepsFrom : ∀ (σ : S2) (a1 : Int32) (a2 : Int32) (sz : Nat) (r0 : Int32) (σ9 : S2), qX0_keepsFrom σ a1 a2 = some (r0, σ9) → Met l yX0_keepsFrom wsX0_keepsFrom ({ frames := 52 + d, cells := 0, slots := 0, locals := 1169 + 23 * d }) (va_Pc [.ref (ad 35), .int a1, .int a2] (wPre (dC, dI) cy (wG (cC cy ad τ) ad (182 + 6 * nb) σ) sz)) (va_Qi (fun (r : Int32) (_ : Unit) => r = r0) (fun (_ : Unit) t => wAt (dC, dI) (va_A (wG (cC cy ad τ) ad (182 + 6 * nb) σ) sz) (wG (cC cy ad τ) ad (182 + 6 * nb) σ9) t) (va_A (wG (cC cy ad τ) ad (182 + 6 * nb) σ) sz)) 0 0 (va_A (wG (cC cy ad τ) ad (182 + 6 * nb) σ) sz)) (σ : S2) (a1 : Int32) (a2 : Int32) (sz : Nat) (r0 : Int32) (σ9 : S2) (h : eX0_keepsFrom τ qX0_keepsFrom σ a1 a2 = some (r0, σ9)) : Met l yX0_keepsFrom wsX0_keepsFrom ({ frames := 52 + (d + 1), cells := 0, slots := 0, locals := 1169 + 23 * (d + 1) }) (va_Pc [.ref (ad 35), .int a1, .int a2] (wPre (dC, dI) cy (wG (cC cy ad τ) ad (182 + 6 * nb) σ) sz)) (va_Qi (fun (r : Int32) (_ : Unit) => r = r0) (fun (_ : Unit) t => wAt (dC, dI) (va_A (wG (cC cy ad τ) ad (182 + 6 * nb) σ) sz) (wG (cC cy ad τ) ad (182 + 6 * nb) σ9) t) (va_A (wG (cC cy ad τ) ad (182 + 6 * nb) σ) sz)) 0 0 (va_A (wG (cC cy ad τ) ad (182 + 6 * nb) σ) sz) := by
  refine Met.ofW (cc := cX0_keepsFrom) (maxL := 4) (ret := (some .int)) (by decide) rfl ?_
  intro p e s m args below meth c s₁ B hml hv
  obtain ⟨rfl, hsz, hP, hK, hD0, hN⟩ := hv
  have hx := B.exec
  have hb := B.bytes
  have hr := B.returns
  have hts := atoms_spec (ws := wsX0_keepsFrom) B.pre
  have hown : s.vm.findClass RX0 = some m.cls := findClass_of_methodNamed B.named
  have hlocks := B.notSynchronized
  subst hsz
  have hD := hD0.self (sz := s.heap.size)
  generalize hAe : va_A (wG (cC cy ad τ) ad (182 + 6 * nb) σ) s.heap.size = A at hD ⊢
  have hA : ∀ q : Nat, s.heap.size ≤ q → A q := fun q h => by rw [← hAe]; exact Or.inr h
  have hS : va_S A s.heap s.heap [] := va_S.rf
  have hl := lv_entry ([.ref (ad 35), .int a1, .int a2]) (n := 4) (Nat.le_of_ble_eq_true rfl)
  rw [lg_entry_eq]
  generalize (lg_sl ([.ref (ad 35), .int a1, .int a2]) ++ List.replicate (4 - (lg_sl ([.ref (ad 35), .int a1, .int a2])).length) Slot.unset).toArray = ls at hl ⊢
  have hl : lv_has ls 4 [(0, .ref (ad 35)), (1, .int a1), (2, .int a2)] := hl
  unfold eX0_keepsFrom at h
  clear hAe hD0
  suffices HH : ∀ (H : Heap) (locs : List Loc) (ls : Array Slot), fX0_keepsFrom_0 τ qX0_keepsFrom σ a1 a2 = some (r0, σ9) → va_P (dC, dI) vwCl (wG (cC cy ad τ) ad (182 + 6 * nb) σ) H → va_D A (wG (cC cy ad τ) ad (182 + 6 * nb) σ) → va_S A s.heap H locs → lv_has ls 4 [(0, .ref (ad 35)), (1, .int a1), (2, .int a2)] → W p l e (headSpec wsX0_keepsFrom ({ frames := 52 + (d + 1), cells := 0, slots := 0, locals := 1169 + 23 * (d + 1) })).room s m (#[.ref (ad 35), .int a1, .int a2]) below meth c H locs 0 0 (MQ below (va_Qi (fun (r : Int32) (_ : Unit) => r = r0) (fun (_ : Unit) t => wAt (dC, dI) A (wG (cC cy ad τ) ad (182 + 6 * nb) σ9) t) A) (#[.ref (ad 35), .int a1, .int a2]) s 0 0 A) (F0 m 0 ls []) from HH s.heap [] ls h hP hD hS hl
  have w0 : ∀ (σ : S2) (x1 : Int32) (x2 : Int32) (H : Heap) (locs : List Loc) (ls : Array Slot), fX0_keepsFrom_0 τ qX0_keepsFrom σ x1 x2 = some (r0, σ9) → va_P (dC, dI) vwCl (wG (cC cy ad τ) ad (182 + 6 * nb) σ) H → va_D A (wG (cC cy ad τ) ad (182 + 6 * nb) σ) → va_S A s.heap H locs → lv_has ls 4 [(0, .ref (ad 35)), (1, .int x1), (2, .int x2)] → W p l e (headSpec wsX0_keepsFrom ({ frames := 52 + (d + 1), cells := 0, slots := 0, locals := 1169 + 23 * (d + 1) })).room s m (#[.ref (ad 35), .int a1, .int a2]) below meth c H locs 0 0 (MQ below (va_Qi (fun (r : Int32) (_ : Unit) => r = r0) (fun (_ : Unit) t => wAt (dC, dI) A (wG (cC cy ad τ) ad (182 + 6 * nb) σ9) t) A) (#[.ref (ad 35), .int a1, .int a2]) s 0 0 A) (F0 m 0 ls []) := by
    intro σ x1 x2 H locs ls h hP hD hS hl
    unfold fX0_keepsFrom_0 at h
    refine lv_iload_n hx hb dX0_keepsFrom_0 rfl (lv_at hl 1 rfl) ?_
    by_cases hcd1 : x1 = 3
    · have h := cdP hcd1 h
      refine lv_lookup (off := 49) (tgt := 50) hx hb dX0_keepsFrom_1 (by decide) (by rw [hcd1]; decide) (by decide) ?_
      refine lv_aload_n hx hb dX0_keepsFrom_50 rfl (lv_at hl 0 rfl) ?_
      refine lv_bipush (v := 40) hx hb dX0_keepsFrom_51 (by decide) ?_
      obtain ⟨r2, σ3, hf4, h⟩ := bsS h
      refine ux_callv (va_runV (As := [.int 40]) (rest := []) ⟨hx, hb, hml, hown, hts⟩ (tX0_begin l dC dI cy ad τ nb hτ σ 40 H.size r2 σ3 hf4) (cwV 1 hts gX0_keepsFrom_X0_begin rfl rfl rfl (by decide +kernel) ⟨by show 1 + 1 ≤ 52 + (d + 1); omega, by show 8 + (2 + 11) + 23 ≤ 1169 + 23 * (d + 1); omega⟩) (wp_V hK hN hP hD (va_recv hK hP (ci := 0) (q0 := 35) rfl (wG_of (Nat.lt_of_lt_of_le (Nat.le_of_ble_eq_true rfl : 35 < 182) (Nat.le_add_right _ _)) (cC_35 _ _ _ _ _)))) rfl rfl hl.1 rfl (lv_room (Nat.le_of_ble_eq_true rfl)) dX0_keepsFrom_53 ⟨Nat.le_of_ble_eq_true rfl, Nat.le_of_ble_eq_true rfl⟩) hD hS hA (fun H locs hP hD hS => ?_)
      refine lv_aload_n hx hb dX0_keepsFrom_56 rfl (lv_at hl 0 rfl) ?_
      refine lv_iconst (v := 0) hx hb dX0_keepsFrom_57 (by decide) ?_
      refine lv_iload_n hx hb dX0_keepsFrom_58 rfl (lv_at hl 2 rfl) ?_
      obtain ⟨r5, σ6, hf7, h⟩ := bsS h
      refine ux_calli (va_runV (As := [.int 0, .int x2]) (rest := []) ⟨hx, hb, hml, hown, hts⟩ (hqX0_keepsFrom σ3 0 x2 H.size r5 σ6 hf7) (cwV 2 hts gX0_keepsFrom_X0_keepsFrom rfl rfl rfl (by decide +kernel) ⟨by show (52 + d) + 1 ≤ 52 + (d + 1); omega, by show 8 + (4 + 11) + (1169 + 23 * d) ≤ 1169 + 23 * (d + 1); omega⟩) (wp_V hK hN hP hD (va_recv hK hP (ci := 0) (q0 := 35) rfl (wG_of (Nat.lt_of_lt_of_le (Nat.le_of_ble_eq_true rfl : 35 < 182) (Nat.le_add_right _ _)) (cC_35 _ _ _ _ _)))) rfl rfl hl.1 rfl (lv_room (Nat.le_of_ble_eq_true rfl)) dX0_keepsFrom_59 ⟨Nat.le_of_ble_eq_true rfl, Nat.le_of_ble_eq_true rfl⟩) hD hS hA (fun H locs hP hD hS => ?_)
      refine lv_ineg hx hb dX0_keepsFrom_62 ?_
      exact ux_iret hx hb hr h hP hD hS hlocks dX0_keepsFrom_63
    · have h := cdN hcd1 h
      by_cases hcd8 : x1 = 6
      · have h := cdP hcd8 h
        refine lv_lookup (off := 27) (tgt := 28) hx hb dX0_keepsFrom_1 (by decide) (by rw [hcd8]; decide) (by decide) ?_
        refine lv_aload_n hx hb dX0_keepsFrom_28 rfl (lv_at hl 0 rfl) ?_
        refine lv_bipush (v := 70) hx hb dX0_keepsFrom_29 (by decide) ?_
        obtain ⟨r9, σ10, hf11, h⟩ := bsS h
        refine ux_callv (va_runV (As := [.int 70]) (rest := []) ⟨hx, hb, hml, hown, hts⟩ (tX0_begin l dC dI cy ad τ nb hτ σ 70 H.size r9 σ10 hf11) (cwV 1 hts gX0_keepsFrom_X0_begin rfl rfl rfl (by decide +kernel) ⟨by show 1 + 1 ≤ 52 + (d + 1); omega, by show 8 + (2 + 11) + 23 ≤ 1169 + 23 * (d + 1); omega⟩) (wp_V hK hN hP hD (va_recv hK hP (ci := 0) (q0 := 35) rfl (wG_of (Nat.lt_of_lt_of_le (Nat.le_of_ble_eq_true rfl : 35 < 182) (Nat.le_add_right _ _)) (cC_35 _ _ _ _ _)))) rfl rfl hl.1 rfl (lv_room (Nat.le_of_ble_eq_true rfl)) dX0_keepsFrom_31 ⟨Nat.le_of_ble_eq_true rfl, Nat.le_of_ble_eq_true rfl⟩) hD hS hA (fun H locs hP hD hS => ?_)
        refine lv_aload_n hx hb dX0_keepsFrom_34 rfl (lv_at hl 0 rfl) ?_
        refine lv_iconst (v := 1) hx hb dX0_keepsFrom_35 (by decide) ?_
        refine lv_iload_n hx hb dX0_keepsFrom_36 rfl (lv_at hl 2 rfl) ?_
        obtain ⟨r12, σ13, hf14, h⟩ := bsS h
        refine ux_calli (va_runV (As := [.int 1, .int x2]) (rest := []) ⟨hx, hb, hml, hown, hts⟩ (hqX0_keepsFrom σ10 1 x2 H.size r12 σ13 hf14) (cwV 2 hts gX0_keepsFrom_X0_keepsFrom rfl rfl rfl (by decide +kernel) ⟨by show (52 + d) + 1 ≤ 52 + (d + 1); omega, by show 8 + (4 + 11) + (1169 + 23 * d) ≤ 1169 + 23 * (d + 1); omega⟩) (wp_V hK hN hP hD (va_recv hK hP (ci := 0) (q0 := 35) rfl (wG_of (Nat.lt_of_lt_of_le (Nat.le_of_ble_eq_true rfl : 35 < 182) (Nat.le_add_right _ _)) (cC_35 _ _ _ _ _)))) rfl rfl hl.1 rfl (lv_room (Nat.le_of_ble_eq_true rfl)) dX0_keepsFrom_37 ⟨Nat.le_of_ble_eq_true rfl, Nat.le_of_ble_eq_true rfl⟩) hD hS hA (fun H locs hP hD hS => ?_)
        refine lv_istore_n (lv' := [(3, .int r12), (0, .ref (ad 35)), (1, .int x1), (2, .int x2)]) hx hb dX0_keepsFrom_40 rfl hl (by decide) rfl (fun ls hl => ?_)
        have hl := lv_sub hl [1, 2, 3, 0] (l' := [(0, .ref (ad 35)), (1, .int x1), (2, .int x2), (3, .int r12)]) rfl
        refine lv_iload_n hx hb dX0_keepsFrom_41 rfl (lv_at hl 3 rfl) ?_
        refine lv_aload_n hx hb dX0_keepsFrom_42 rfl (lv_at hl 0 rfl) ?_
        refine lv_iconst (v := 1) hx hb dX0_keepsFrom_43 (by decide) ?_
        refine lv_iload_n hx hb dX0_keepsFrom_44 rfl (lv_at hl 2 rfl) ?_
        obtain ⟨r15, σ16, hf17, h⟩ := bsS h
        refine ux_calli (va_runV (As := [.int 1, .int x2]) (rest := [.int r12]) ⟨hx, hb, hml, hown, hts⟩ (tX0_movesFrom l dC dI cy ad τ nb hτ σ13 1 x2 H.size r15 σ16 hf17) (cwV 2 hts gX0_keepsFrom_X0_movesFrom rfl rfl rfl (by decide +kernel) ⟨by show 51 + 1 ≤ 52 + (d + 1); omega, by show 8 + (4 + 11) + 1146 ≤ 1169 + 23 * (d + 1); omega⟩) (wp_V hK hN hP hD (va_recv hK hP (ci := 0) (q0 := 35) rfl (wG_of (Nat.lt_of_lt_of_le (Nat.le_of_ble_eq_true rfl : 35 < 182) (Nat.le_add_right _ _)) (cC_35 _ _ _ _ _)))) rfl rfl hl.1 rfl (lv_room (Nat.le_of_ble_eq_true rfl)) dX0_keepsFrom_45 ⟨Nat.le_of_ble_eq_true rfl, Nat.le_of_ble_eq_true rfl⟩) hD hS hA (fun H locs hP hD hS => ?_)
        refine lv_iadd hx hb dX0_keepsFrom_48 ?_
        exact ux_iret hx hb hr h hP hD hS hlocks dX0_keepsFrom_49
      · have h := cdN hcd8 h
        refine lv_lookup (off := 63) (tgt := 64) hx hb dX0_keepsFrom_1 (by decide) ((lv_osw hcd1 (by decide)).trans ((lv_osw hcd8 (by decide)).trans rfl)) (by decide) ?_
        refine lv_aload_n hx hb dX0_keepsFrom_64 rfl (lv_at hl 0 rfl) ?_
        refine lv_bipush (v := 10) hx hb dX0_keepsFrom_65 (by decide) ?_
        obtain ⟨r18, σ19, hf20, h⟩ := bsS h
        refine ux_callv (va_runV (As := [.int 10]) (rest := []) ⟨hx, hb, hml, hown, hts⟩ (tX0_begin l dC dI cy ad τ nb hτ σ 10 H.size r18 σ19 hf20) (cwV 1 hts gX0_keepsFrom_X0_begin rfl rfl rfl (by decide +kernel) ⟨by show 1 + 1 ≤ 52 + (d + 1); omega, by show 8 + (2 + 11) + 23 ≤ 1169 + 23 * (d + 1); omega⟩) (wp_V hK hN hP hD (va_recv hK hP (ci := 0) (q0 := 35) rfl (wG_of (Nat.lt_of_lt_of_le (Nat.le_of_ble_eq_true rfl : 35 < 182) (Nat.le_add_right _ _)) (cC_35 _ _ _ _ _)))) rfl rfl hl.1 rfl (lv_room (Nat.le_of_ble_eq_true rfl)) dX0_keepsFrom_67 ⟨Nat.le_of_ble_eq_true rfl, Nat.le_of_ble_eq_true rfl⟩) hD hS hA (fun H locs hP hD hS => ?_)
        refine lv_aload_n hx hb dX0_keepsFrom_70 rfl (lv_at hl 0 rfl) ?_
        refine lv_aload_n hx hb dX0_keepsFrom_71 rfl (lv_at hl 0 rfl) ?_
        refine ux_get (D := (dC, dI)) (ci := 0) (v := .int (σ19.1 35 2)) (C := RX0) (T := TX0) (M := 5) (fs := (oAC ad (σ19.1 35))) hx hb hts (fun _ h9 => List.mem_cons_of_mem _ (List.mem_append_right _ h9)) hown hK hP 35 (Nat.lt_of_lt_of_le (Nat.le_of_ble_eq_true rfl : 35 < 182) (Nat.le_add_right _ _)) (cC_35 _ _ _ _ _) rfl 2 (by decide) (hts (.fieldLink RX0 19 "SeatsRound$Acts" "own" "I") (List.mem_of_getElem? (i := 1) rfl)) (fun _ h9 => h9) rfl dX0_keepsFrom_72 ?_
        refine lv_iload_n hx hb dX0_keepsFrom_75 rfl (lv_at hl 2 rfl) ?_
        obtain ⟨r21, σ22, hf23, h⟩ := bsS h
        refine ux_calli (va_runV (As := [.int (σ19.1 35 2), .int x2]) (rest := []) ⟨hx, hb, hml, hown, hts⟩ (tX0_findsFrom l dC dI cy ad τ nb hτ σ19 (σ19.1 35 2) x2 H.size r21 σ22 hf23) (cwV 2 hts gX0_keepsFrom_X0_findsFrom rfl rfl rfl (by decide +kernel) ⟨by show 26 + 1 ≤ 52 + (d + 1); omega, by show 8 + (3 + 11) + 572 ≤ 1169 + 23 * (d + 1); omega⟩) (wp_V hK hN hP hD (va_recv hK hP (ci := 0) (q0 := 35) rfl (wG_of (Nat.lt_of_lt_of_le (Nat.le_of_ble_eq_true rfl : 35 < 182) (Nat.le_add_right _ _)) (cC_35 _ _ _ _ _)))) rfl rfl hl.1 rfl (lv_room (Nat.le_of_ble_eq_true rfl)) dX0_keepsFrom_76 ⟨Nat.le_of_ble_eq_true rfl, Nat.le_of_ble_eq_true rfl⟩) hD hS hA (fun H locs hP hD hS => ?_)
        refine lv_iconst (v := 2) hx hb dX0_keepsFrom_79 (by decide) ?_
        refine lv_imul hx hb dX0_keepsFrom_80 ?_
        exact ux_iret hx hb hr h hP hD hS hlocks dX0_keepsFrom_81
  intro H locs ls h hP hD hS hl
  exact w0 σ a1 a2 H locs ls h hP hD hS (lv_sub hl [0, 1, 2] rfl)

set_option maxRecDepth 100000 in
theorem gGX0_keepsFrom (l : Launch) (dC : Nat → ClassId) (dI : Nat → Nat → Nat) (cy : Nat → ClassId) (ad : Nat → Nat) (τ nb : Nat) (hτ : τ < nb) (d : Nat) : (∀ (σ : S2) (a1 : Int32) (a2 : Int32) (sz : Nat) (r0 : Int32) (σ9 : S2), GX0_keepsFrom τ d 0 σ a1 a2 = some (r0, σ9) → Met l yX0_keepsFrom wsX0_keepsFrom ({ frames := 52 + d, cells := 0, slots := 0, locals := 1169 + 23 * d }) (va_Pc [.ref (ad 35), .int a1, .int a2] (wPre (dC, dI) cy (wG (cC cy ad τ) ad (182 + 6 * nb) σ) sz)) (va_Qi (fun (r : Int32) (_ : Unit) => r = r0) (fun (_ : Unit) t => wAt (dC, dI) (va_A (wG (cC cy ad τ) ad (182 + 6 * nb) σ) sz) (wG (cC cy ad τ) ad (182 + 6 * nb) σ9) t) (va_A (wG (cC cy ad τ) ad (182 + 6 * nb) σ) sz)) 0 0 (va_A (wG (cC cy ad τ) ad (182 + 6 * nb) σ) sz)) := by
  induction d with
  | zero => exact (by intros; contradiction)
  | succ d ih =>
    exact (fun σ a1 a2 sz r0 σ9 h => uX0_keepsFrom l dC dI cy ad d τ nb hτ _ (ih) σ a1 a2 sz r0 σ9 h)

theorem tX0_keepsFrom (l : Launch) (dC : Nat → ClassId) (dI : Nat → Nat → Nat) (cy : Nat → ClassId) (ad : Nat → Nat) (τ nb : Nat) (hτ : τ < nb) : ∀ (σ : S2) (a1 : Int32) (a2 : Int32) (sz : Nat) (r0 : Int32) (σ9 : S2), fX0_keepsFrom τ σ a1 a2 = some (r0, σ9) → Met l yX0_keepsFrom wsX0_keepsFrom ({ frames := 76, cells := 0, slots := 0, locals := 1721 }) (va_Pc [.ref (ad 35), .int a1, .int a2] (wPre (dC, dI) cy (wG (cC cy ad τ) ad (182 + 6 * nb) σ) sz)) (va_Qi (fun (r : Int32) (_ : Unit) => r = r0) (fun (_ : Unit) t => wAt (dC, dI) (va_A (wG (cC cy ad τ) ad (182 + 6 * nb) σ) sz) (wG (cC cy ad τ) ad (182 + 6 * nb) σ9) t) (va_A (wG (cC cy ad τ) ad (182 + 6 * nb) σ) sz)) 0 0 (va_A (wG (cC cy ad τ) ad (182 + 6 * nb) σ) sz) := (gGX0_keepsFrom l dC dI cy ad τ nb hτ 24)

set_option maxHeartbeats 4000000 in
set_option maxRecDepth 100000 in
theorem uX0_tellsFrom (l : Launch) (dC : Nat → ClassId) (dI : Nat → Nat → Nat) (cy : Nat → ClassId) (ad : Nat → Nat) (d : Nat) (τ nb : Nat) (hτ : τ < nb) (qX0_tellsFrom : S2 → Int32 → Int32 → Option (Int32 × S2)) (hqX0_tellsFrom : ∀ (σ : S2) (a1 : Int32) (a2 : Int32) (sz : Nat) (r0 : Int32) (σ9 : S2), qX0_tellsFrom σ a1 a2 = some (r0, σ9) → Met l yX0_tellsFrom wsX0_tellsFrom ({ frames := 77 + d, cells := 0, slots := 0, locals := 1744 + 23 * d }) (va_Pc [.ref (ad 35), .int a1, .int a2] (wPre (dC, dI) cy (wG (cC cy ad τ) ad (182 + 6 * nb) σ) sz)) (va_Qi (fun (r : Int32) (_ : Unit) => r = r0) (fun (_ : Unit) t => wAt (dC, dI) (va_A (wG (cC cy ad τ) ad (182 + 6 * nb) σ) sz) (wG (cC cy ad τ) ad (182 + 6 * nb) σ9) t) (va_A (wG (cC cy ad τ) ad (182 + 6 * nb) σ) sz)) 0 0 (va_A (wG (cC cy ad τ) ad (182 + 6 * nb) σ) sz)) (σ : S2) (a1 : Int32) (a2 : Int32) (sz : Nat) (r0 : Int32) (σ9 : S2) (h : eX0_tellsFrom τ qX0_tellsFrom σ a1 a2 = some (r0, σ9)) : Met l yX0_tellsFrom wsX0_tellsFrom ({ frames := 77 + (d + 1), cells := 0, slots := 0, locals := 1744 + 23 * (d + 1) }) (va_Pc [.ref (ad 35), .int a1, .int a2] (wPre (dC, dI) cy (wG (cC cy ad τ) ad (182 + 6 * nb) σ) sz)) (va_Qi (fun (r : Int32) (_ : Unit) => r = r0) (fun (_ : Unit) t => wAt (dC, dI) (va_A (wG (cC cy ad τ) ad (182 + 6 * nb) σ) sz) (wG (cC cy ad τ) ad (182 + 6 * nb) σ9) t) (va_A (wG (cC cy ad τ) ad (182 + 6 * nb) σ) sz)) 0 0 (va_A (wG (cC cy ad τ) ad (182 + 6 * nb) σ) sz) := by
  refine Met.ofW (cc := cX0_tellsFrom) (maxL := 4) (ret := (some .int)) (by decide) rfl ?_
  intro p e s m args below meth c s₁ B hml hv
  obtain ⟨rfl, hsz, hP, hK, hD0, hN⟩ := hv
  have hx := B.exec
  have hb := B.bytes
  have hr := B.returns
  have hts := atoms_spec (ws := wsX0_tellsFrom) B.pre
  have hown : s.vm.findClass RX0 = some m.cls := findClass_of_methodNamed B.named
  have hlocks := B.notSynchronized
  subst hsz
  have hD := hD0.self (sz := s.heap.size)
  generalize hAe : va_A (wG (cC cy ad τ) ad (182 + 6 * nb) σ) s.heap.size = A at hD ⊢
  have hA : ∀ q : Nat, s.heap.size ≤ q → A q := fun q h => by rw [← hAe]; exact Or.inr h
  have hS : va_S A s.heap s.heap [] := va_S.rf
  have hl := lv_entry ([.ref (ad 35), .int a1, .int a2]) (n := 4) (Nat.le_of_ble_eq_true rfl)
  rw [lg_entry_eq]
  generalize (lg_sl ([.ref (ad 35), .int a1, .int a2]) ++ List.replicate (4 - (lg_sl ([.ref (ad 35), .int a1, .int a2])).length) Slot.unset).toArray = ls at hl ⊢
  have hl : lv_has ls 4 [(0, .ref (ad 35)), (1, .int a1), (2, .int a2)] := hl
  unfold eX0_tellsFrom at h
  clear hAe hD0
  suffices HH : ∀ (H : Heap) (locs : List Loc) (ls : Array Slot), fX0_tellsFrom_0 τ qX0_tellsFrom σ a1 a2 = some (r0, σ9) → va_P (dC, dI) vwCl (wG (cC cy ad τ) ad (182 + 6 * nb) σ) H → va_D A (wG (cC cy ad τ) ad (182 + 6 * nb) σ) → va_S A s.heap H locs → lv_has ls 4 [(0, .ref (ad 35)), (1, .int a1), (2, .int a2)] → W p l e (headSpec wsX0_tellsFrom ({ frames := 77 + (d + 1), cells := 0, slots := 0, locals := 1744 + 23 * (d + 1) })).room s m (#[.ref (ad 35), .int a1, .int a2]) below meth c H locs 0 0 (MQ below (va_Qi (fun (r : Int32) (_ : Unit) => r = r0) (fun (_ : Unit) t => wAt (dC, dI) A (wG (cC cy ad τ) ad (182 + 6 * nb) σ9) t) A) (#[.ref (ad 35), .int a1, .int a2]) s 0 0 A) (F0 m 0 ls []) from HH s.heap [] ls h hP hD hS hl
  have w0 : ∀ (σ : S2) (x1 : Int32) (x2 : Int32) (H : Heap) (locs : List Loc) (ls : Array Slot), fX0_tellsFrom_0 τ qX0_tellsFrom σ x1 x2 = some (r0, σ9) → va_P (dC, dI) vwCl (wG (cC cy ad τ) ad (182 + 6 * nb) σ) H → va_D A (wG (cC cy ad τ) ad (182 + 6 * nb) σ) → va_S A s.heap H locs → lv_has ls 4 [(0, .ref (ad 35)), (1, .int x1), (2, .int x2)] → W p l e (headSpec wsX0_tellsFrom ({ frames := 77 + (d + 1), cells := 0, slots := 0, locals := 1744 + 23 * (d + 1) })).room s m (#[.ref (ad 35), .int a1, .int a2]) below meth c H locs 0 0 (MQ below (va_Qi (fun (r : Int32) (_ : Unit) => r = r0) (fun (_ : Unit) t => wAt (dC, dI) A (wG (cC cy ad τ) ad (182 + 6 * nb) σ9) t) A) (#[.ref (ad 35), .int a1, .int a2]) s 0 0 A) (F0 m 0 ls []) := by
    intro σ x1 x2 H locs ls h hP hD hS hl
    unfold fX0_tellsFrom_0 at h
    refine lv_iload_n hx hb dX0_tellsFrom_0 rfl (lv_at hl 1 rfl) ?_
    refine lv_iconst (v := 4) hx hb dX0_tellsFrom_1 (by decide) ?_
    refine lv_icmp_ne (tgt := 21) hx hb dX0_tellsFrom_2 (by decide) (fun hcd => ?_) (fun hcd => ?_)
    · have h := cdN hcd h
      refine lv_aload_n hx hb dX0_tellsFrom_21 rfl (lv_at hl 0 rfl) ?_
      refine lv_iconst (v := 2) hx hb dX0_tellsFrom_22 (by decide) ?_
      obtain ⟨r1, σ2, hf3, h⟩ := bsS h
      refine ux_callv (va_runV (As := [.int 2]) (rest := []) ⟨hx, hb, hml, hown, hts⟩ (tX0_begin l dC dI cy ad τ nb hτ σ 2 H.size r1 σ2 hf3) (cwV 1 hts gX0_tellsFrom_X0_begin rfl rfl rfl (by decide +kernel) ⟨by show 1 + 1 ≤ 77 + (d + 1); omega, by show 8 + (2 + 11) + 23 ≤ 1744 + 23 * (d + 1); omega⟩) (wp_V hK hN hP hD (va_recv hK hP (ci := 0) (q0 := 35) rfl (wG_of (Nat.lt_of_lt_of_le (Nat.le_of_ble_eq_true rfl : 35 < 182) (Nat.le_add_right _ _)) (cC_35 _ _ _ _ _)))) rfl rfl hl.1 rfl (lv_room (Nat.le_of_ble_eq_true rfl)) dX0_tellsFrom_23 ⟨Nat.le_of_ble_eq_true rfl, Nat.le_of_ble_eq_true rfl⟩) hD hS hA (fun H locs hP hD hS => ?_)
      refine lv_aload_n hx hb dX0_tellsFrom_26 rfl (lv_at hl 0 rfl) ?_
      refine lv_aload_n hx hb dX0_tellsFrom_27 rfl (lv_at hl 0 rfl) ?_
      refine ux_get (D := (dC, dI)) (ci := 0) (v := .int (σ2.1 35 2)) (C := RX0) (T := TX0) (M := 5) (fs := (oAC ad (σ2.1 35))) hx hb hts (fun _ h9 => List.mem_cons_of_mem _ (List.mem_append_right _ h9)) hown hK hP 35 (Nat.lt_of_lt_of_le (Nat.le_of_ble_eq_true rfl : 35 < 182) (Nat.le_add_right _ _)) (cC_35 _ _ _ _ _) rfl 2 (by decide) (hts (.fieldLink RX0 19 "SeatsRound$Acts" "own" "I") (List.mem_of_getElem? (i := 1) rfl)) (fun _ h9 => h9) rfl dX0_tellsFrom_28 ?_
      refine lv_iload_n hx hb dX0_tellsFrom_31 rfl (lv_at hl 2 rfl) ?_
      obtain ⟨r4, σ5, hf6, h⟩ := bsS h
      refine ux_calli (va_runV (As := [.int (σ2.1 35 2), .int x2]) (rest := []) ⟨hx, hb, hml, hown, hts⟩ (tX0_keepsFrom l dC dI cy ad τ nb hτ σ2 (σ2.1 35 2) x2 H.size r4 σ5 hf6) (cwV 2 hts gX0_tellsFrom_X0_keepsFrom rfl rfl rfl (by decide +kernel) ⟨by show 76 + 1 ≤ 77 + (d + 1); omega, by show 8 + (4 + 11) + 1721 ≤ 1744 + 23 * (d + 1); omega⟩) (wp_V hK hN hP hD (va_recv hK hP (ci := 0) (q0 := 35) rfl (wG_of (Nat.lt_of_lt_of_le (Nat.le_of_ble_eq_true rfl : 35 < 182) (Nat.le_add_right _ _)) (cC_35 _ _ _ _ _)))) rfl rfl hl.1 rfl (lv_room (Nat.le_of_ble_eq_true rfl)) dX0_tellsFrom_32 ⟨Nat.le_of_ble_eq_true rfl, Nat.le_of_ble_eq_true rfl⟩) hD hS hA (fun H locs hP hD hS => ?_)
      refine lv_istore_n (lv' := [(3, .int r4), (0, .ref (ad 35)), (1, .int x1), (2, .int x2)]) hx hb dX0_tellsFrom_35 rfl hl (by decide) rfl (fun ls hl => ?_)
      have hl := lv_sub hl [1, 2, 3, 0] (l' := [(0, .ref (ad 35)), (1, .int x1), (2, .int x2), (3, .int r4)]) rfl
      refine lv_iload_n hx hb dX0_tellsFrom_36 rfl (lv_at hl 3 rfl) ?_
      refine lv_aload_n hx hb dX0_tellsFrom_37 rfl (lv_at hl 0 rfl) ?_
      refine lv_aload_n hx hb dX0_tellsFrom_38 rfl (lv_at hl 0 rfl) ?_
      refine ux_get (D := (dC, dI)) (ci := 0) (v := .int (σ5.1 35 2)) (C := RX0) (T := TX0) (M := 5) (fs := (oAC ad (σ5.1 35))) hx hb hts (fun _ h9 => List.mem_cons_of_mem _ (List.mem_append_right _ h9)) hown hK hP 35 (Nat.lt_of_lt_of_le (Nat.le_of_ble_eq_true rfl : 35 < 182) (Nat.le_add_right _ _)) (cC_35 _ _ _ _ _) rfl 2 (by decide) (hts (.fieldLink RX0 19 "SeatsRound$Acts" "own" "I") (List.mem_of_getElem? (i := 1) rfl)) (fun _ h9 => h9) rfl dX0_tellsFrom_39 ?_
      refine lv_iconst (v := 1) hx hb dX0_tellsFrom_42 (by decide) ?_
      obtain ⟨r7, σ8, hf9, h⟩ := bsS h
      refine ux_calli (va_runV (As := [.int (σ5.1 35 2), .int 1]) (rest := [.int r4]) ⟨hx, hb, hml, hown, hts⟩ (tX0_movesFrom l dC dI cy ad τ nb hτ σ5 (σ5.1 35 2) 1 H.size r7 σ8 hf9) (cwV 2 hts gX0_tellsFrom_X0_movesFrom rfl rfl rfl (by decide +kernel) ⟨by show 51 + 1 ≤ 77 + (d + 1); omega, by show 8 + (4 + 11) + 1146 ≤ 1744 + 23 * (d + 1); omega⟩) (wp_V hK hN hP hD (va_recv hK hP (ci := 0) (q0 := 35) rfl (wG_of (Nat.lt_of_lt_of_le (Nat.le_of_ble_eq_true rfl : 35 < 182) (Nat.le_add_right _ _)) (cC_35 _ _ _ _ _)))) rfl rfl hl.1 rfl (lv_room (Nat.le_of_ble_eq_true rfl)) dX0_tellsFrom_43 ⟨Nat.le_of_ble_eq_true rfl, Nat.le_of_ble_eq_true rfl⟩) hD hS hA (fun H locs hP hD hS => ?_)
      refine lv_isub hx hb dX0_tellsFrom_46 ?_
      exact ux_iret hx hb hr h hP hD hS hlocks dX0_tellsFrom_47
    · have h := cdP hcd h
      refine lv_aload_n hx hb dX0_tellsFrom_5 rfl (lv_at hl 0 rfl) ?_
      refine lv_bipush (v := 50) hx hb dX0_tellsFrom_6 (by decide) ?_
      obtain ⟨r10, σ11, hf12, h⟩ := bsS h
      refine ux_callv (va_runV (As := [.int 50]) (rest := []) ⟨hx, hb, hml, hown, hts⟩ (tX0_begin l dC dI cy ad τ nb hτ σ 50 H.size r10 σ11 hf12) (cwV 1 hts gX0_tellsFrom_X0_begin rfl rfl rfl (by decide +kernel) ⟨by show 1 + 1 ≤ 77 + (d + 1); omega, by show 8 + (2 + 11) + 23 ≤ 1744 + 23 * (d + 1); omega⟩) (wp_V hK hN hP hD (va_recv hK hP (ci := 0) (q0 := 35) rfl (wG_of (Nat.lt_of_lt_of_le (Nat.le_of_ble_eq_true rfl : 35 < 182) (Nat.le_add_right _ _)) (cC_35 _ _ _ _ _)))) rfl rfl hl.1 rfl (lv_room (Nat.le_of_ble_eq_true rfl)) dX0_tellsFrom_8 ⟨Nat.le_of_ble_eq_true rfl, Nat.le_of_ble_eq_true rfl⟩) hD hS hA (fun H locs hP hD hS => ?_)
      refine lv_aload_n hx hb dX0_tellsFrom_11 rfl (lv_at hl 0 rfl) ?_
      refine lv_iconst (v := 0) hx hb dX0_tellsFrom_12 (by decide) ?_
      refine lv_iload_n hx hb dX0_tellsFrom_13 rfl (lv_at hl 2 rfl) ?_
      obtain ⟨r13, σ14, hf15, h⟩ := bsS h
      refine ux_calli (va_runV (As := [.int 0, .int x2]) (rest := []) ⟨hx, hb, hml, hown, hts⟩ (hqX0_tellsFrom σ11 0 x2 H.size r13 σ14 hf15) (cwV 2 hts gX0_tellsFrom_X0_tellsFrom rfl rfl rfl (by decide +kernel) ⟨by show (77 + d) + 1 ≤ 77 + (d + 1); omega, by show 8 + (4 + 11) + (1744 + 23 * d) ≤ 1744 + 23 * (d + 1); omega⟩) (wp_V hK hN hP hD (va_recv hK hP (ci := 0) (q0 := 35) rfl (wG_of (Nat.lt_of_lt_of_le (Nat.le_of_ble_eq_true rfl : 35 < 182) (Nat.le_add_right _ _)) (cC_35 _ _ _ _ _)))) rfl rfl hl.1 rfl (lv_room (Nat.le_of_ble_eq_true rfl)) dX0_tellsFrom_14 ⟨Nat.le_of_ble_eq_true rfl, Nat.le_of_ble_eq_true rfl⟩) hD hS hA (fun H locs hP hD hS => ?_)
      refine lv_bipush (v := 9) hx hb dX0_tellsFrom_17 (by decide) ?_
      refine lv_ixor hx hb dX0_tellsFrom_19 ?_
      exact ux_iret hx hb hr h hP hD hS hlocks dX0_tellsFrom_20
  intro H locs ls h hP hD hS hl
  exact w0 σ a1 a2 H locs ls h hP hD hS (lv_sub hl [0, 1, 2] rfl)

set_option maxRecDepth 100000 in
theorem gGX0_tellsFrom (l : Launch) (dC : Nat → ClassId) (dI : Nat → Nat → Nat) (cy : Nat → ClassId) (ad : Nat → Nat) (τ nb : Nat) (hτ : τ < nb) (d : Nat) : (∀ (σ : S2) (a1 : Int32) (a2 : Int32) (sz : Nat) (r0 : Int32) (σ9 : S2), GX0_tellsFrom τ d 0 σ a1 a2 = some (r0, σ9) → Met l yX0_tellsFrom wsX0_tellsFrom ({ frames := 77 + d, cells := 0, slots := 0, locals := 1744 + 23 * d }) (va_Pc [.ref (ad 35), .int a1, .int a2] (wPre (dC, dI) cy (wG (cC cy ad τ) ad (182 + 6 * nb) σ) sz)) (va_Qi (fun (r : Int32) (_ : Unit) => r = r0) (fun (_ : Unit) t => wAt (dC, dI) (va_A (wG (cC cy ad τ) ad (182 + 6 * nb) σ) sz) (wG (cC cy ad τ) ad (182 + 6 * nb) σ9) t) (va_A (wG (cC cy ad τ) ad (182 + 6 * nb) σ) sz)) 0 0 (va_A (wG (cC cy ad τ) ad (182 + 6 * nb) σ) sz)) := by
  induction d with
  | zero => exact (by intros; contradiction)
  | succ d ih =>
    exact (fun σ a1 a2 sz r0 σ9 h => uX0_tellsFrom l dC dI cy ad d τ nb hτ _ (ih) σ a1 a2 sz r0 σ9 h)

theorem tX0_tellsFrom (l : Launch) (dC : Nat → ClassId) (dI : Nat → Nat → Nat) (cy : Nat → ClassId) (ad : Nat → Nat) (τ nb : Nat) (hτ : τ < nb) : ∀ (σ : S2) (a1 : Int32) (a2 : Int32) (sz : Nat) (r0 : Int32) (σ9 : S2), fX0_tellsFrom τ σ a1 a2 = some (r0, σ9) → Met l yX0_tellsFrom wsX0_tellsFrom ({ frames := 101, cells := 0, slots := 0, locals := 2296 }) (va_Pc [.ref (ad 35), .int a1, .int a2] (wPre (dC, dI) cy (wG (cC cy ad τ) ad (182 + 6 * nb) σ) sz)) (va_Qi (fun (r : Int32) (_ : Unit) => r = r0) (fun (_ : Unit) t => wAt (dC, dI) (va_A (wG (cC cy ad τ) ad (182 + 6 * nb) σ) sz) (wG (cC cy ad τ) ad (182 + 6 * nb) σ9) t) (va_A (wG (cC cy ad τ) ad (182 + 6 * nb) σ) sz)) 0 0 (va_A (wG (cC cy ad τ) ad (182 + 6 * nb) σ) sz) := (gGX0_tellsFrom l dC dI cy ad τ nb hτ 24)

set_option maxHeartbeats 4000000 in
set_option maxRecDepth 100000 in
theorem tX0_run (l : Launch) (dC : Nat → ClassId) (dI : Nat → Nat → Nat) (cy : Nat → ClassId) (ad : Nat → Nat) (τ nb : Nat) (hτ : τ < nb) (σ : S2) (a1 : Int32) (a2 : Int32) (a3 : Int32) (a4 : Int32) (a5 : Int32) (sz : Nat) (r0 : Int32) (σ9 : S2) (h : fX0_run τ σ a1 a2 a3 a4 a5 = some (r0, σ9)) : Met l yX0_run wsX0_run ({ frames := 102, cells := 0, slots := 0, locals := 2319 }) (va_Pc [.ref (ad 35), .int a1, .int a2, .int a3, .int a4, .int a5] (wPre (dC, dI) cy (wG (cC cy ad τ) ad (182 + 6 * nb) σ) sz)) (va_Qi (fun (r : Int32) (_ : Unit) => r = r0) (fun (_ : Unit) t => wAt (dC, dI) (va_A (wG (cC cy ad τ) ad (182 + 6 * nb) σ) sz) (wG (cC cy ad τ) ad (182 + 6 * nb) σ9) t) (va_A (wG (cC cy ad τ) ad (182 + 6 * nb) σ) sz)) 0 0 (va_A (wG (cC cy ad τ) ad (182 + 6 * nb) σ) sz) := by
  refine Met.ofW (cc := cX0_run) (maxL := 6) (ret := (some .int)) (by decide) rfl ?_
  intro p e s m args below meth c s₁ B hml hv
  obtain ⟨rfl, hsz, hP, hK, hD0, hN⟩ := hv
  have hx := B.exec
  have hb := B.bytes
  have hr := B.returns
  have hts := atoms_spec (ws := wsX0_run) B.pre
  have hown : s.vm.findClass RX0 = some m.cls := findClass_of_methodNamed B.named
  have hlocks := B.notSynchronized
  subst hsz
  have hD := hD0.self (sz := s.heap.size)
  generalize hAe : va_A (wG (cC cy ad τ) ad (182 + 6 * nb) σ) s.heap.size = A at hD ⊢
  have hA : ∀ q : Nat, s.heap.size ≤ q → A q := fun q h => by rw [← hAe]; exact Or.inr h
  have hS : va_S A s.heap s.heap [] := va_S.rf
  have hl := lv_entry ([.ref (ad 35), .int a1, .int a2, .int a3, .int a4, .int a5]) (n := 6) (Nat.le_of_ble_eq_true rfl)
  rw [lg_entry_eq]
  generalize (lg_sl ([.ref (ad 35), .int a1, .int a2, .int a3, .int a4, .int a5]) ++ List.replicate (6 - (lg_sl ([.ref (ad 35), .int a1, .int a2, .int a3, .int a4, .int a5])).length) Slot.unset).toArray = ls at hl ⊢
  have hl : lv_has ls 6 [(0, .ref (ad 35)), (1, .int a1), (2, .int a2), (3, .int a3), (4, .int a4), (5, .int a5)] := hl
  unfold fX0_run at h
  clear hAe hD0
  suffices HH : ∀ (H : Heap) (locs : List Loc) (ls : Array Slot), fX0_run_0 τ σ a1 a2 a3 a4 a5 = some (r0, σ9) → va_P (dC, dI) vwCl (wG (cC cy ad τ) ad (182 + 6 * nb) σ) H → va_D A (wG (cC cy ad τ) ad (182 + 6 * nb) σ) → va_S A s.heap H locs → lv_has ls 6 [(0, .ref (ad 35)), (1, .int a1), (2, .int a2), (3, .int a3), (4, .int a4), (5, .int a5)] → W p l e (headSpec wsX0_run ({ frames := 102, cells := 0, slots := 0, locals := 2319 })).room s m (#[.ref (ad 35), .int a1, .int a2, .int a3, .int a4, .int a5]) below meth c H locs 0 0 (MQ below (va_Qi (fun (r : Int32) (_ : Unit) => r = r0) (fun (_ : Unit) t => wAt (dC, dI) A (wG (cC cy ad τ) ad (182 + 6 * nb) σ9) t) A) (#[.ref (ad 35), .int a1, .int a2, .int a3, .int a4, .int a5]) s 0 0 A) (F0 m 0 ls []) from HH s.heap [] ls h hP hD hS hl
  have w0 : ∀ (σ : S2) (x1 : Int32) (x2 : Int32) (x3 : Int32) (x4 : Int32) (x5 : Int32) (H : Heap) (locs : List Loc) (ls : Array Slot), fX0_run_0 τ σ x1 x2 x3 x4 x5 = some (r0, σ9) → va_P (dC, dI) vwCl (wG (cC cy ad τ) ad (182 + 6 * nb) σ) H → va_D A (wG (cC cy ad τ) ad (182 + 6 * nb) σ) → va_S A s.heap H locs → lv_has ls 6 [(0, .ref (ad 35)), (1, .int x1), (2, .int x2), (3, .int x3), (4, .int x4), (5, .int x5)] → W p l e (headSpec wsX0_run ({ frames := 102, cells := 0, slots := 0, locals := 2319 })).room s m (#[.ref (ad 35), .int a1, .int a2, .int a3, .int a4, .int a5]) below meth c H locs 0 0 (MQ below (va_Qi (fun (r : Int32) (_ : Unit) => r = r0) (fun (_ : Unit) t => wAt (dC, dI) A (wG (cC cy ad τ) ad (182 + 6 * nb) σ9) t) A) (#[.ref (ad 35), .int a1, .int a2, .int a3, .int a4, .int a5]) s 0 0 A) (F0 m 0 ls []) := by
    intro σ x1 x2 x3 x4 x5 H locs ls h hP hD hS hl
    unfold fX0_run_0 at h
    refine lv_aload_n hx hb dX0_run_0 rfl (lv_at hl 0 rfl) ?_
    refine lv_iload_n hx hb dX0_run_1 rfl (lv_at hl 1 rfl) ?_
    refine ux_put (D := (dC, dI)) (ci := 0) (C := RX0) (T := TX0) (M := 5) (fs := (oAC ad (σ.1 35))) hx hb hts (fun _ h9 => List.mem_cons_of_mem _ (List.mem_append_right _ h9)) tyX0 tyX0_ok nmX0 hown hK hP hD hS 35 (Nat.lt_of_lt_of_le (Nat.le_of_ble_eq_true rfl : 35 < 182) (Nat.le_add_right _ _)) (cC_35 _ _ _ _ _) rfl 3 (by decide) (hts (.fieldLink RX0 22 "SeatsRound$Acts" "number" "I") (List.mem_of_getElem? (i := 1) rfl)) (fun _ h9 => h9) rfl (tyX0_ok 3 (by decide)) rfl rfl (Nat.le_of_ble_eq_true rfl) (oC_35_3 _ _ _ _ _ _) h dX0_run_2 (fun σ1 H locs h hP hD hS => ?_)
    refine lv_aload_n hx hb dX0_run_5 rfl (lv_at hl 0 rfl) ?_
    refine lv_iload_n hx hb dX0_run_6 rfl (lv_at hl 2 rfl) ?_
    refine ux_put (D := (dC, dI)) (ci := 0) (C := RX0) (T := TX0) (M := 5) (fs := (oAC ad (σ1.1 35))) hx hb hts (fun _ h9 => List.mem_cons_of_mem _ (List.mem_append_right _ h9)) tyX0 tyX0_ok nmX0 hown hK hP hD hS 35 (Nat.lt_of_lt_of_le (Nat.le_of_ble_eq_true rfl : 35 < 182) (Nat.le_add_right _ _)) (cC_35 _ _ _ _ _) rfl 4 (by decide) (hts (.fieldLink RX0 25 "SeatsRound$Acts" "strength" "I") (List.mem_of_getElem? (i := 2) rfl)) (fun _ h9 => h9) rfl (tyX0_ok 4 (by decide)) rfl rfl (Nat.le_of_ble_eq_true rfl) (oC_35_4 _ _ _ _ _ _) h dX0_run_7 (fun σ2 H locs h hP hD hS => ?_)
    refine lv_aload_n hx hb dX0_run_10 rfl (lv_at hl 0 rfl) ?_
    refine lv_iload_n hx hb dX0_run_11 rfl (lv_at hl 3 rfl) ?_
    refine ux_put (D := (dC, dI)) (ci := 0) (C := RX0) (T := TX0) (M := 5) (fs := (oAC ad (σ2.1 35))) hx hb hts (fun _ h9 => List.mem_cons_of_mem _ (List.mem_append_right _ h9)) tyX0 tyX0_ok nmX0 hown hK hP hD hS 35 (Nat.lt_of_lt_of_le (Nat.le_of_ble_eq_true rfl : 35 < 182) (Nat.le_add_right _ _)) (cC_35 _ _ _ _ _) rfl 2 (by decide) (hts (.fieldLink RX0 19 "SeatsRound$Acts" "own" "I") (List.mem_of_getElem? (i := 3) rfl)) (fun _ h9 => h9) rfl (tyX0_ok 2 (by decide)) rfl rfl (Nat.le_of_ble_eq_true rfl) (oC_35_2 _ _ _ _ _ _) h dX0_run_12 (fun σ3 H locs h hP hD hS => ?_)
    refine lv_iload hx hb dX0_run_15 (lv_at hl 4 rfl) ?_
    by_cases hcd4 : x4 = 0
    · have h := cdP hcd4 h
      refine lv_tableIn (off := 31) (tgt := 48) hx hb dX0_run_17 (by rw [hcd4]; decide) (by rw [hcd4]; decide) (by rw [hcd4]; rfl) (by decide) ?_
      refine lv_aload_n hx hb dX0_run_48 rfl (lv_at hl 0 rfl) ?_
      refine lv_aload_n hx hb dX0_run_49 rfl (lv_at hl 0 rfl) ?_
      refine ux_get (D := (dC, dI)) (ci := 0) (v := .int (σ3.1 35 2)) (C := RX0) (T := TX0) (M := 5) (fs := (oAC ad (σ3.1 35))) hx hb hts (fun _ h9 => List.mem_cons_of_mem _ (List.mem_append_right _ h9)) hown hK hP 35 (Nat.lt_of_lt_of_le (Nat.le_of_ble_eq_true rfl : 35 < 182) (Nat.le_add_right _ _)) (cC_35 _ _ _ _ _) rfl 2 (by decide) (hts (.fieldLink RX0 19 "SeatsRound$Acts" "own" "I") (List.mem_of_getElem? (i := 3) rfl)) (fun _ h9 => h9) rfl dX0_run_50 ?_
      refine lv_iload hx hb dX0_run_53 (lv_at hl 5 rfl) ?_
      obtain ⟨r5, σ6, hf7, h⟩ := bsS h
      refine ux_calli (va_runV (As := [.int (σ3.1 35 2), .int x5]) (rest := []) ⟨hx, hb, hml, hown, hts⟩ (tX0_findsFrom l dC dI cy ad τ nb hτ σ3 (σ3.1 35 2) x5 H.size r5 σ6 hf7) (cwV 2 hts gX0_run_X0_findsFrom rfl rfl rfl (by decide +kernel) ⟨Nat.le_of_ble_eq_true rfl, Nat.le_of_ble_eq_true rfl⟩) (wp_V hK hN hP hD (va_recv hK hP (ci := 0) (q0 := 35) rfl (wG_of (Nat.lt_of_lt_of_le (Nat.le_of_ble_eq_true rfl : 35 < 182) (Nat.le_add_right _ _)) (cC_35 _ _ _ _ _)))) rfl rfl hl.1 rfl (lv_room (Nat.le_of_ble_eq_true rfl)) dX0_run_55 ⟨Nat.le_of_ble_eq_true rfl, Nat.le_of_ble_eq_true rfl⟩) hD hS hA (fun H locs hP hD hS => ?_)
      exact ux_iret hx hb hr h hP hD hS hlocks dX0_run_58
    · have h := cdN hcd4 h
      have ihcd4 : ¬ x4.toInt = (0 : Int) := fun h9 => hcd4 (Int32.toInt_inj.mp h9)
      by_cases hcd8 : x4 = 1
      · have h := cdP hcd8 h
        refine lv_tableIn (off := 42) (tgt := 59) hx hb dX0_run_17 (by rw [hcd8]; decide) (by rw [hcd8]; decide) (by rw [hcd8]; rfl) (by decide) ?_
        refine lv_aload_n hx hb dX0_run_59 rfl (lv_at hl 0 rfl) ?_
        refine lv_aload_n hx hb dX0_run_60 rfl (lv_at hl 0 rfl) ?_
        refine ux_get (D := (dC, dI)) (ci := 0) (v := .int (σ3.1 35 2)) (C := RX0) (T := TX0) (M := 5) (fs := (oAC ad (σ3.1 35))) hx hb hts (fun _ h9 => List.mem_cons_of_mem _ (List.mem_append_right _ h9)) hown hK hP 35 (Nat.lt_of_lt_of_le (Nat.le_of_ble_eq_true rfl : 35 < 182) (Nat.le_add_right _ _)) (cC_35 _ _ _ _ _) rfl 2 (by decide) (hts (.fieldLink RX0 19 "SeatsRound$Acts" "own" "I") (List.mem_of_getElem? (i := 3) rfl)) (fun _ h9 => h9) rfl dX0_run_61 ?_
        refine lv_iload hx hb dX0_run_64 (lv_at hl 5 rfl) ?_
        obtain ⟨r9, σ10, hf11, h⟩ := bsS h
        refine ux_calli (va_runV (As := [.int (σ3.1 35 2), .int x5]) (rest := []) ⟨hx, hb, hml, hown, hts⟩ (tX0_keepsFrom l dC dI cy ad τ nb hτ σ3 (σ3.1 35 2) x5 H.size r9 σ10 hf11) (cwV 2 hts gX0_run_X0_keepsFrom rfl rfl rfl (by decide +kernel) ⟨Nat.le_of_ble_eq_true rfl, Nat.le_of_ble_eq_true rfl⟩) (wp_V hK hN hP hD (va_recv hK hP (ci := 0) (q0 := 35) rfl (wG_of (Nat.lt_of_lt_of_le (Nat.le_of_ble_eq_true rfl : 35 < 182) (Nat.le_add_right _ _)) (cC_35 _ _ _ _ _)))) rfl rfl hl.1 rfl (lv_room (Nat.le_of_ble_eq_true rfl)) dX0_run_66 ⟨Nat.le_of_ble_eq_true rfl, Nat.le_of_ble_eq_true rfl⟩) hD hS hA (fun H locs hP hD hS => ?_)
        exact ux_iret hx hb hr h hP hD hS hlocks dX0_run_69
      · have h := cdN hcd8 h
        have ihcd8 : ¬ x4.toInt = (1 : Int) := fun h9 => hcd8 (Int32.toInt_inj.mp h9)
        by_cases hcd12 : x4 = 2
        · have h := cdP hcd12 h
          refine lv_tableIn (off := 53) (tgt := 70) hx hb dX0_run_17 (by rw [hcd12]; decide) (by rw [hcd12]; decide) (by rw [hcd12]; rfl) (by decide) ?_
          refine lv_aload_n hx hb dX0_run_70 rfl (lv_at hl 0 rfl) ?_
          refine lv_aload_n hx hb dX0_run_71 rfl (lv_at hl 0 rfl) ?_
          refine ux_get (D := (dC, dI)) (ci := 0) (v := .int (σ3.1 35 2)) (C := RX0) (T := TX0) (M := 5) (fs := (oAC ad (σ3.1 35))) hx hb hts (fun _ h9 => List.mem_cons_of_mem _ (List.mem_append_right _ h9)) hown hK hP 35 (Nat.lt_of_lt_of_le (Nat.le_of_ble_eq_true rfl : 35 < 182) (Nat.le_add_right _ _)) (cC_35 _ _ _ _ _) rfl 2 (by decide) (hts (.fieldLink RX0 19 "SeatsRound$Acts" "own" "I") (List.mem_of_getElem? (i := 3) rfl)) (fun _ h9 => h9) rfl dX0_run_72 ?_
          refine lv_iload hx hb dX0_run_75 (lv_at hl 5 rfl) ?_
          obtain ⟨r13, σ14, hf15, h⟩ := bsS h
          refine ux_calli (va_runV (As := [.int (σ3.1 35 2), .int x5]) (rest := []) ⟨hx, hb, hml, hown, hts⟩ (tX0_movesFrom l dC dI cy ad τ nb hτ σ3 (σ3.1 35 2) x5 H.size r13 σ14 hf15) (cwV 2 hts gX0_run_X0_movesFrom rfl rfl rfl (by decide +kernel) ⟨Nat.le_of_ble_eq_true rfl, Nat.le_of_ble_eq_true rfl⟩) (wp_V hK hN hP hD (va_recv hK hP (ci := 0) (q0 := 35) rfl (wG_of (Nat.lt_of_lt_of_le (Nat.le_of_ble_eq_true rfl : 35 < 182) (Nat.le_add_right _ _)) (cC_35 _ _ _ _ _)))) rfl rfl hl.1 rfl (lv_room (Nat.le_of_ble_eq_true rfl)) dX0_run_77 ⟨Nat.le_of_ble_eq_true rfl, Nat.le_of_ble_eq_true rfl⟩) hD hS hA (fun H locs hP hD hS => ?_)
          exact ux_iret hx hb hr h hP hD hS hlocks dX0_run_80
        · have h := cdN hcd12 h
          have ihcd12 : ¬ x4.toInt = (2 : Int) := fun h9 => hcd12 (Int32.toInt_inj.mp h9)
          by_cases hcd16 : x4 = 3
          · have h := cdP hcd16 h
            refine lv_tableIn (off := 64) (tgt := 81) hx hb dX0_run_17 (by rw [hcd16]; decide) (by rw [hcd16]; decide) (by rw [hcd16]; rfl) (by decide) ?_
            refine lv_aload_n hx hb dX0_run_81 rfl (lv_at hl 0 rfl) ?_
            refine lv_aload_n hx hb dX0_run_82 rfl (lv_at hl 0 rfl) ?_
            refine ux_get (D := (dC, dI)) (ci := 0) (v := .int (σ3.1 35 2)) (C := RX0) (T := TX0) (M := 5) (fs := (oAC ad (σ3.1 35))) hx hb hts (fun _ h9 => List.mem_cons_of_mem _ (List.mem_append_right _ h9)) hown hK hP 35 (Nat.lt_of_lt_of_le (Nat.le_of_ble_eq_true rfl : 35 < 182) (Nat.le_add_right _ _)) (cC_35 _ _ _ _ _) rfl 2 (by decide) (hts (.fieldLink RX0 19 "SeatsRound$Acts" "own" "I") (List.mem_of_getElem? (i := 3) rfl)) (fun _ h9 => h9) rfl dX0_run_83 ?_
            refine lv_iload hx hb dX0_run_86 (lv_at hl 5 rfl) ?_
            obtain ⟨r17, σ18, hf19, h⟩ := bsS h
            refine ux_calli (va_runV (As := [.int (σ3.1 35 2), .int x5]) (rest := []) ⟨hx, hb, hml, hown, hts⟩ (tX0_tellsFrom l dC dI cy ad τ nb hτ σ3 (σ3.1 35 2) x5 H.size r17 σ18 hf19) (cwV 2 hts gX0_run_X0_tellsFrom rfl rfl rfl (by decide +kernel) ⟨Nat.le_of_ble_eq_true rfl, Nat.le_of_ble_eq_true rfl⟩) (wp_V hK hN hP hD (va_recv hK hP (ci := 0) (q0 := 35) rfl (wG_of (Nat.lt_of_lt_of_le (Nat.le_of_ble_eq_true rfl : 35 < 182) (Nat.le_add_right _ _)) (cC_35 _ _ _ _ _)))) rfl rfl hl.1 rfl (lv_room (Nat.le_of_ble_eq_true rfl)) dX0_run_88 ⟨Nat.le_of_ble_eq_true rfl, Nat.le_of_ble_eq_true rfl⟩) hD hS hA (fun H locs hP hD hS => ?_)
            exact ux_iret hx hb hr h hP hD hS hlocks dX0_run_91
          · have h := cdN hcd16 h
            have ihcd16 : ¬ x4.toInt = (3 : Int) := fun h9 => hcd16 (Int32.toInt_inj.mp h9)
            refine lv_tableOut (tgt := 92) hx hb dX0_run_17 (by omega) (by decide) ?_
            refine lv_iconst (v := 0) hx hb dX0_run_92 (by decide) ?_
            exact ux_iret hx hb hr h hP hD hS hlocks dX0_run_93
  intro H locs ls h hP hD hS hl
  exact w0 σ a1 a2 a3 a4 a5 H locs ls h hP hD hS (lv_sub hl [0, 1, 2, 3, 4, 5] rfl)

set_option maxHeartbeats 4000000 in
set_option maxRecDepth 100000 in
theorem tX11_strewn (l : Launch) (dC : Nat → ClassId) (dI : Nat → Nat → Nat) (cy : Nat → ClassId) (ad : Nat → Nat) (τ nb : Nat) (hτ : τ < nb) (σ : S2) (a0 : Int32) (sz : Nat) (r0 : Int32) (h : fX11_strewn τ σ a0 = some r0) : Met l yX11_strewn wsX11_strewn ({ frames := 1, cells := 0, slots := 0, locals := 23 }) (va_Pc [.int a0] (wPre (dC, dI) cy (wG (cC cy ad τ) ad (182 + 6 * nb) σ) sz)) (va_Qi (fun (r : Int32) (_ : Unit) => r = r0) (fun (_ : Unit) t => wAt (dC, dI) (va_A (wG (cC cy ad τ) ad (182 + 6 * nb) σ) sz) (wG (cC cy ad τ) ad (182 + 6 * nb) σ) t) (va_A (wG (cC cy ad τ) ad (182 + 6 * nb) σ) sz)) 0 0 (va_A (wG (cC cy ad τ) ad (182 + 6 * nb) σ) sz) := by
  refine Met.ofW (cc := cX11_strewn) (maxL := 1) (ret := (some .int)) (by decide) rfl ?_
  intro p e s m args below meth c s₁ B hml hv
  obtain ⟨rfl, hsz, hP, hK, hD0, hN⟩ := hv
  have hx := B.exec
  have hb := B.bytes
  have hr := B.returns
  have hts := atoms_spec (ws := wsX11_strewn) B.pre
  have hown : s.vm.findClass RX11 = some m.cls := findClass_of_methodNamed B.named
  have hlocks := B.notSynchronized
  subst hsz
  have hD := hD0.self (sz := s.heap.size)
  generalize hAe : va_A (wG (cC cy ad τ) ad (182 + 6 * nb) σ) s.heap.size = A at hD ⊢
  have hA : ∀ q : Nat, s.heap.size ≤ q → A q := fun q h => by rw [← hAe]; exact Or.inr h
  have hS : va_S A s.heap s.heap [] := va_S.rf
  have hl := lv_entry ([.int a0]) (n := 1) (Nat.le_of_ble_eq_true rfl)
  rw [lg_entry_eq]
  generalize (lg_sl ([.int a0]) ++ List.replicate (1 - (lg_sl ([.int a0])).length) Slot.unset).toArray = ls at hl ⊢
  have hl : lv_has ls 1 [(0, .int a0)] := hl
  unfold fX11_strewn at h
  clear hAe hD0
  suffices HH : ∀ (H : Heap) (locs : List Loc) (ls : Array Slot), fX11_strewn_0 τ σ a0 = some r0 → va_P (dC, dI) vwCl (wG (cC cy ad τ) ad (182 + 6 * nb) σ) H → va_D A (wG (cC cy ad τ) ad (182 + 6 * nb) σ) → va_S A s.heap H locs → lv_has ls 1 [(0, .int a0)] → W p l e (headSpec wsX11_strewn ({ frames := 1, cells := 0, slots := 0, locals := 23 })).room s m (#[.int a0]) below meth c H locs 0 0 (MQ below (va_Qi (fun (r : Int32) (_ : Unit) => r = r0) (fun (_ : Unit) t => wAt (dC, dI) A (wG (cC cy ad τ) ad (182 + 6 * nb) σ) t) A) (#[.int a0]) s 0 0 A) (F0 m 0 ls []) from HH s.heap [] ls h hP hD hS hl
  have w0 : ∀ (σ : S2) (x0 : Int32) (H : Heap) (locs : List Loc) (ls : Array Slot), fX11_strewn_0 τ σ x0 = some r0 → va_P (dC, dI) vwCl (wG (cC cy ad τ) ad (182 + 6 * nb) σ) H → va_D A (wG (cC cy ad τ) ad (182 + 6 * nb) σ) → va_S A s.heap H locs → lv_has ls 1 [(0, .int x0)] → W p l e (headSpec wsX11_strewn ({ frames := 1, cells := 0, slots := 0, locals := 23 })).room s m (#[.int a0]) below meth c H locs 0 0 (MQ below (va_Qi (fun (r : Int32) (_ : Unit) => r = r0) (fun (_ : Unit) t => wAt (dC, dI) A (wG (cC cy ad τ) ad (182 + 6 * nb) σ) t) A) (#[.int a0]) s 0 0 A) (F0 m 0 ls []) := by
    intro σ x0 H locs ls h hP hD hS hl
    unfold fX11_strewn_0 at h
    refine lv_iload_n hx hb dX11_strewn_0 rfl (lv_at hl 0 rfl) ?_
    refine lv_ldcw hx hb hown (hts (.constant RX11 423 (1103515245)) (List.mem_of_getElem? (i := 1) rfl)) dX11_strewn_1 ?_
    refine lv_imul hx hb dX11_strewn_4 ?_
    refine lv_sipush (v := 12345) hx hb dX11_strewn_5 (by decide) ?_
    refine lv_iadd hx hb dX11_strewn_8 ?_
    refine lv_bipush (v := 8) hx hb dX11_strewn_9 (by decide) ?_
    refine lv_iushr hx hb dX11_strewn_11 rfl ?_
    refine lv_sipush (v := 1000) hx hb dX11_strewn_12 (by decide) ?_
    change W _ _ _ _ _ _ _ _ _ _ _ _ _ _ _ (F0 m 15 ls [.int 1000, .int (UInt32.toInt32 (Int32.toUInt32 ((x0 * 1103515245) + 12345) >>> (Int32.toUInt32 8 &&& Int32.toUInt32 31)))])
    obtain ⟨hz1, h⟩ := dzS h
    refine lv_irem hx hb dX11_strewn_15 hz1 ?_
    exact ux_iretP hx hb hr h hP hD hS hlocks dX11_strewn_16
  intro H locs ls h hP hD hS hl
  exact w0 σ a0 H locs ls h hP hD hS (lv_sub hl [0] rfl)

set_option maxHeartbeats 4000000 in
set_option maxRecDepth 100000 in
theorem tX8_sumOf (l : Launch) (dC : Nat → ClassId) (dI : Nat → Nat → Nat) (cy : Nat → ClassId) (ad : Nat → Nat) (τ nb : Nat) (hτ : τ < nb) (b0 : Nat) (hb0 : b0 < nb) (σ : S2) (a1 : Int32) (a2 : Int32) (sz : Nat) (r0 : Int32) (h : fX8_sumOf τ b0 σ a1 a2 = some r0) : Met l yX8_sumOf wsX8_sumOf ({ frames := 2, cells := 0, slots := 0, locals := 43 }) (va_Pc [.ref (ad (182 + 6 * b0)), .int a1, .int a2] (wPre (dC, dI) cy (wG (cC cy ad τ) ad (182 + 6 * nb) σ) sz)) (va_Qi (fun (r : Int32) (_ : Unit) => r = r0) (fun (_ : Unit) t => wAt (dC, dI) (va_A (wG (cC cy ad τ) ad (182 + 6 * nb) σ) sz) (wG (cC cy ad τ) ad (182 + 6 * nb) σ) t) (va_A (wG (cC cy ad τ) ad (182 + 6 * nb) σ) sz)) 0 0 (va_A (wG (cC cy ad τ) ad (182 + 6 * nb) σ) sz) := by
  refine Met.ofW (cc := cX8_sumOf) (maxL := 3) (ret := (some .int)) (by decide) rfl ?_
  intro p e s m args below meth c s₁ B hml hv
  obtain ⟨rfl, hsz, hP, hK, hD0, hN⟩ := hv
  have hx := B.exec
  have hb := B.bytes
  have hr := B.returns
  have hts := atoms_spec (ws := wsX8_sumOf) B.pre
  have hown : s.vm.findClass RX8 = some m.cls := findClass_of_methodNamed B.named
  have hlocks := B.notSynchronized
  subst hsz
  have hD := hD0.self (sz := s.heap.size)
  generalize hAe : va_A (wG (cC cy ad τ) ad (182 + 6 * nb) σ) s.heap.size = A at hD ⊢
  have hA : ∀ q : Nat, s.heap.size ≤ q → A q := fun q h => by rw [← hAe]; exact Or.inr h
  have hS : va_S A s.heap s.heap [] := va_S.rf
  have hl := lv_entry ([.ref (ad (182 + 6 * b0)), .int a1, .int a2]) (n := 3) (Nat.le_of_ble_eq_true rfl)
  rw [lg_entry_eq]
  generalize (lg_sl ([.ref (ad (182 + 6 * b0)), .int a1, .int a2]) ++ List.replicate (3 - (lg_sl ([.ref (ad (182 + 6 * b0)), .int a1, .int a2])).length) Slot.unset).toArray = ls at hl ⊢
  have hl : lv_has ls 3 [(0, .ref (ad (182 + 6 * b0))), (1, .int a1), (2, .int a2)] := hl
  unfold fX8_sumOf at h
  clear hAe hD0
  suffices HH : ∀ (H : Heap) (locs : List Loc) (ls : Array Slot), fX8_sumOf_0 τ b0 σ a1 a2 = some r0 → va_P (dC, dI) vwCl (wG (cC cy ad τ) ad (182 + 6 * nb) σ) H → va_D A (wG (cC cy ad τ) ad (182 + 6 * nb) σ) → va_S A s.heap H locs → lv_has ls 3 [(0, .ref (ad (182 + 6 * b0))), (1, .int a1), (2, .int a2)] → W p l e (headSpec wsX8_sumOf ({ frames := 2, cells := 0, slots := 0, locals := 43 })).room s m (#[.ref (ad (182 + 6 * b0)), .int a1, .int a2]) below meth c H locs 0 0 (MQ below (va_Qi (fun (r : Int32) (_ : Unit) => r = r0) (fun (_ : Unit) t => wAt (dC, dI) A (wG (cC cy ad τ) ad (182 + 6 * nb) σ) t) A) (#[.ref (ad (182 + 6 * b0)), .int a1, .int a2]) s 0 0 A) (F0 m 0 ls []) from HH s.heap [] ls h hP hD hS hl
  have w0 : ∀ (σ : S2) (x1 : Int32) (x2 : Int32) (H : Heap) (locs : List Loc) (ls : Array Slot), fX8_sumOf_0 τ b0 σ x1 x2 = some r0 → va_P (dC, dI) vwCl (wG (cC cy ad τ) ad (182 + 6 * nb) σ) H → va_D A (wG (cC cy ad τ) ad (182 + 6 * nb) σ) → va_S A s.heap H locs → lv_has ls 3 [(0, .ref (ad (182 + 6 * b0))), (1, .int x1), (2, .int x2)] → W p l e (headSpec wsX8_sumOf ({ frames := 2, cells := 0, slots := 0, locals := 43 })).room s m (#[.ref (ad (182 + 6 * b0)), .int a1, .int a2]) below meth c H locs 0 0 (MQ below (va_Qi (fun (r : Int32) (_ : Unit) => r = r0) (fun (_ : Unit) t => wAt (dC, dI) A (wG (cC cy ad τ) ad (182 + 6 * nb) σ) t) A) (#[.ref (ad (182 + 6 * b0)), .int a1, .int a2]) s 0 0 A) (F0 m 0 ls []) := by
    intro σ x1 x2 H locs ls h hP hD hS hl
    unfold fX8_sumOf_0 at h
    refine lv_iload_n hx hb dX8_sumOf_0 rfl (lv_at hl 2 rfl) ?_
    refine lv_sipush (v := 7919) hx hb dX8_sumOf_1 (by decide) ?_
    refine lv_imul hx hb dX8_sumOf_4 ?_
    refine lv_iload_n hx hb dX8_sumOf_5 rfl (lv_at hl 1 rfl) ?_
    refine lv_ldc hx hb hown (hts (.constant RX8 86 (104729)) (List.mem_of_getElem? (i := 1) rfl)) dX8_sumOf_6 ?_
    refine lv_imul hx hb dX8_sumOf_8 ?_
    refine lv_iadd hx hb dX8_sumOf_9 ?_
    refine lv_aload_n hx hb dX8_sumOf_10 rfl (lv_at hl 0 rfl) ?_
    change W _ _ _ _ _ _ _ _ _ _ _ _ _ _ _ (F0 m 11 ls [.ref (ad (182 + 6 * b0)), .int ((x2 * 7919) + (x1 * 104729))])
    refine ux_get (D := (dC, dI)) (ci := 8) (v := .int (σ.1 (182 + 6 * b0) 1)) (C := RX8) (T := TX8) (M := 13) (fs := (oTB ad (182 + 6 * b0) (σ.1 (182 + 6 * b0)))) hx hb hts (fun _ h9 => List.mem_cons_of_mem _ (List.mem_append_right _ h9)) hown hK hP (182 + 6 * b0) (by omega) (cC_t0 _ _ _ _ _ b0) rfl 1 (by decide) (hts (.fieldLink RX8 15 "SeatsRound$Table" "turn" "I") (List.mem_of_getElem? (i := 2) rfl)) (fun _ h9 => h9) rfl dX8_sumOf_11 ?_
    refine lv_iadd hx hb dX8_sumOf_14 ?_
    obtain ⟨r1, hf2, h⟩ := biS h
    refine ux_calli (va_runSN (As := [.int (((x2 * 7919) + (x1 * 104729)) + (σ.1 (182 + 6 * b0) 1))]) (rest := []) ⟨hx, hb, hml, hown, hts⟩ (tX11_strewn l dC dI cy ad τ nb hτ σ (((x2 * 7919) + (x1 * 104729)) + (σ.1 (182 + 6 * b0) 1)) H.size r1 hf2) ⟨va_cnB 1 hts gX8_sumOf_X11_strewn_n87 rfl rfl rfl (hN.1 _ (List.mem_of_getElem? (i := 6) rfl)) (hts (.initialized RX11) (List.mem_of_getElem? (i := 5) rfl)) (by decide +kernel) ⟨Nat.le_of_ble_eq_true rfl, Nat.le_of_ble_eq_true rfl⟩, (hts (.static yX11_strewn) (List.mem_of_getElem? (i := 4) rfl)), trivial⟩ (wp_S hK hN hP hD) rfl rfl hl.1 rfl (lv_room (Nat.le_of_ble_eq_true rfl)) dX8_sumOf_15 ⟨Nat.le_of_ble_eq_true rfl, Nat.le_of_ble_eq_true rfl⟩) hD hS hA (fun H locs hP hD hS => ?_)
    refine lv_aload_n hx hb dX8_sumOf_18 rfl (lv_at hl 0 rfl) ?_
    refine ux_get (D := (dC, dI)) (ci := 8) (v := .ref (ad (182 + 6 * b0 + 1))) (C := RX8) (T := TX8) (M := 13) (fs := (oTB ad (182 + 6 * b0) (σ.1 (182 + 6 * b0)))) hx hb hts (fun _ h9 => List.mem_cons_of_mem _ (List.mem_append_right _ h9)) hown hK hP (182 + 6 * b0) (by omega) (cC_t0 _ _ _ _ _ b0) rfl 8 (by decide) (hts (.fieldLink RX8 37 "SeatsRound$Table" "weight" "[I") (List.mem_of_getElem? (i := 3) rfl)) (fun _ h9 => h9) rfl dX8_sumOf_19 ?_
    refine lv_iload_n hx hb dX8_sumOf_22 rfl (lv_at hl 1 rfl) ?_
    refine ux_iald hx hb hK hP (182 + 6 * b0 + 1) 0 (by omega) (cC_t1 _ _ _ _ _ b0) rfl h dX8_sumOf_23 (fun v3 h => ?_)
    refine lv_imul hx hb dX8_sumOf_24 ?_
    exact ux_iretP hx hb hr h hP hD hS hlocks dX8_sumOf_25
  intro H locs ls h hP hD hS hl
  exact w0 σ a1 a2 H locs ls h hP hD hS (lv_sub hl [0, 1, 2] rfl)

set_option maxHeartbeats 4000000 in
set_option maxRecDepth 100000 in
theorem tX1_pickBySums (l : Launch) (dC : Nat → ClassId) (dI : Nat → Nat → Nat) (cy : Nat → ClassId) (ad : Nat → Nat) (τ nb : Nat) (hτ : τ < nb) (b1 : Nat) (hb1 : b1 < nb) (σ : S2) (a2 : Int32) (sz : Nat) (r0 : Unit) (σ9 : S2) (h : fX1_pickBySums τ b1 σ a2 = some (r0, σ9)) : Met l yX1_pickBySums wsX1_pickBySums ({ frames := 3, cells := 0, slots := 0, locals := 65 }) (va_Pc [.ref (ad 14), .ref (ad (182 + 6 * b1)), .int a2] (wPre (dC, dI) cy (wG (cC cy ad τ) ad (182 + 6 * nb) σ) sz)) (va_Qv (fun (_ : Unit) => True) (fun (_ : Unit) t => wAt (dC, dI) (va_A (wG (cC cy ad τ) ad (182 + 6 * nb) σ) sz) (wG (cC cy ad τ) ad (182 + 6 * nb) σ9) t) (va_A (wG (cC cy ad τ) ad (182 + 6 * nb) σ) sz)) 0 0 (va_A (wG (cC cy ad τ) ad (182 + 6 * nb) σ) sz) := by
  refine Met.ofW (cc := cX1_pickBySums) (maxL := 7) (ret := none) (by decide) rfl ?_
  intro p e s m args below meth c s₁ B hml hv
  obtain ⟨rfl, hsz, hP, hK, hD0, hN⟩ := hv
  have hx := B.exec
  have hb := B.bytes
  have hr := B.returns
  have hts := atoms_spec (ws := wsX1_pickBySums) B.pre
  have hown : s.vm.findClass RX1 = some m.cls := findClass_of_methodNamed B.named
  have hlocks := B.notSynchronized
  subst hsz
  have hD := hD0.self (sz := s.heap.size)
  generalize hAe : va_A (wG (cC cy ad τ) ad (182 + 6 * nb) σ) s.heap.size = A at hD ⊢
  have hA : ∀ q : Nat, s.heap.size ≤ q → A q := fun q h => by rw [← hAe]; exact Or.inr h
  have hS : va_S A s.heap s.heap [] := va_S.rf
  have hl := lv_entry ([.ref (ad 14), .ref (ad (182 + 6 * b1)), .int a2]) (n := 7) (Nat.le_of_ble_eq_true rfl)
  rw [lg_entry_eq]
  generalize (lg_sl ([.ref (ad 14), .ref (ad (182 + 6 * b1)), .int a2]) ++ List.replicate (7 - (lg_sl ([.ref (ad 14), .ref (ad (182 + 6 * b1)), .int a2])).length) Slot.unset).toArray = ls at hl ⊢
  have hl : lv_has ls 7 [(0, .ref (ad 14)), (1, .ref (ad (182 + 6 * b1))), (2, .int a2)] := hl
  unfold fX1_pickBySums at h
  clear hAe hD0
  suffices HH : ∀ (H : Heap) (locs : List Loc) (ls : Array Slot), fX1_pickBySums_0 τ b1 σ a2 = some (r0, σ9) → va_P (dC, dI) vwCl (wG (cC cy ad τ) ad (182 + 6 * nb) σ) H → va_D A (wG (cC cy ad τ) ad (182 + 6 * nb) σ) → va_S A s.heap H locs → lv_has ls 7 [(0, .ref (ad 14)), (1, .ref (ad (182 + 6 * b1))), (2, .int a2)] → W p l e (headSpec wsX1_pickBySums ({ frames := 3, cells := 0, slots := 0, locals := 65 })).room s m (#[.ref (ad 14), .ref (ad (182 + 6 * b1)), .int a2]) below meth c H locs 0 0 (MQ below (va_Qv (fun (_ : Unit) => True) (fun (_ : Unit) t => wAt (dC, dI) A (wG (cC cy ad τ) ad (182 + 6 * nb) σ9) t) A) (#[.ref (ad 14), .ref (ad (182 + 6 * b1)), .int a2]) s 0 0 A) (F0 m 0 ls []) from HH s.heap [] ls h hP hD hS hl
  have w132 : ∀ (k2 : S2 → Int32 → Int32 → Option (Unit × S2)) (hk2 : ∀ (σ : S2) (x2 : Int32) (x3 : Int32) (H : Heap) (locs : List Loc) (ls : Array Slot), k2 σ x2 x3 = some (r0, σ9) → va_P (dC, dI) vwCl (wG (cC cy ad τ) ad (182 + 6 * nb) σ) H → va_D A (wG (cC cy ad τ) ad (182 + 6 * nb) σ) → va_S A s.heap H locs → lv_has ls 7 [(0, .ref (ad 14)), (1, .ref (ad (182 + 6 * b1))), (2, .int x2), (3, .int x3)] → W p l e (headSpec wsX1_pickBySums ({ frames := 3, cells := 0, slots := 0, locals := 65 })).room s m (#[.ref (ad 14), .ref (ad (182 + 6 * b1)), .int a2]) below meth c H locs 0 0 (MQ below (va_Qv (fun (_ : Unit) => True) (fun (_ : Unit) t => wAt (dC, dI) A (wG (cC cy ad τ) ad (182 + 6 * nb) σ9) t) A) (#[.ref (ad 14), .ref (ad (182 + 6 * b1)), .int a2]) s 0 0 A) (F0 m 2 ls [])) , ∀ (σ : S2) (x2 : Int32) (x3 : Int32) (H : Heap) (locs : List Loc) (ls : Array Slot), fX1_pickBySums_132 τ b1 k2 σ x2 x3 = some (r0, σ9) → va_P (dC, dI) vwCl (wG (cC cy ad τ) ad (182 + 6 * nb) σ) H → va_D A (wG (cC cy ad τ) ad (182 + 6 * nb) σ) → va_S A s.heap H locs → lv_has ls 7 [(0, .ref (ad 14)), (1, .ref (ad (182 + 6 * b1))), (2, .int x2), (3, .int x3)] → W p l e (headSpec wsX1_pickBySums ({ frames := 3, cells := 0, slots := 0, locals := 65 })).room s m (#[.ref (ad 14), .ref (ad (182 + 6 * b1)), .int a2]) below meth c H locs 0 0 (MQ below (va_Qv (fun (_ : Unit) => True) (fun (_ : Unit) t => wAt (dC, dI) A (wG (cC cy ad τ) ad (182 + 6 * nb) σ9) t) A) (#[.ref (ad 14), .ref (ad (182 + 6 * b1)), .int a2]) s 0 0 A) (F0 m 132 ls []) := by
    intro k2 hk2 σ x2 x3 H locs ls h hP hD hS hl
    unfold fX1_pickBySums_132 at h
    obtain ⟨v1, ev1⟩ : ∃ y : Int32, y = x3 + 1 := ⟨_, rfl⟩
    have h := nmS h ev1
    refine lv_iinc (v := v1) (lv' := [(3, .int v1), (0, .ref (ad 14)), (1, .ref (ad (182 + 6 * b1))), (2, .int x2)]) hx hb dX1_pickBySums_132 hl (k := 3) rfl (by rw [ev1]; rfl) (by decide) rfl (fun ls hl => ?_)
    have hl := lv_sub hl [1, 2, 3, 0] (l' := [(0, .ref (ad 14)), (1, .ref (ad (182 + 6 * b1))), (2, .int x2), (3, .int v1)]) rfl
    refine lv_goto (tgt := 2) hx hb dX1_pickBySums_135 (by decide) ?_
    exact hk2 σ x2 v1 H locs ls h hP hD hS hl
  have w105 : ∀ (k2 : S2 → Int32 → Int32 → Option (Unit × S2)) (hk2 : ∀ (σ : S2) (x2 : Int32) (x3 : Int32) (H : Heap) (locs : List Loc) (ls : Array Slot), k2 σ x2 x3 = some (r0, σ9) → va_P (dC, dI) vwCl (wG (cC cy ad τ) ad (182 + 6 * nb) σ) H → va_D A (wG (cC cy ad τ) ad (182 + 6 * nb) σ) → va_S A s.heap H locs → lv_has ls 7 [(0, .ref (ad 14)), (1, .ref (ad (182 + 6 * b1))), (2, .int x2), (3, .int x3)] → W p l e (headSpec wsX1_pickBySums ({ frames := 3, cells := 0, slots := 0, locals := 65 })).room s m (#[.ref (ad 14), .ref (ad (182 + 6 * b1)), .int a2]) below meth c H locs 0 0 (MQ below (va_Qv (fun (_ : Unit) => True) (fun (_ : Unit) t => wAt (dC, dI) A (wG (cC cy ad τ) ad (182 + 6 * nb) σ9) t) A) (#[.ref (ad 14), .ref (ad (182 + 6 * b1)), .int a2]) s 0 0 A) (F0 m 2 ls [])) , ∀ (σ : S2) (x2 : Int32) (x3 : Int32) (x4 : Int32) (x5 : Int32) (H : Heap) (locs : List Loc) (ls : Array Slot), fX1_pickBySums_105 τ b1 k2 σ x2 x3 x4 x5 = some (r0, σ9) → va_P (dC, dI) vwCl (wG (cC cy ad τ) ad (182 + 6 * nb) σ) H → va_D A (wG (cC cy ad τ) ad (182 + 6 * nb) σ) → va_S A s.heap H locs → lv_has ls 7 [(0, .ref (ad 14)), (1, .ref (ad (182 + 6 * b1))), (2, .int x2), (3, .int x3), (4, .int x4), (5, .int x5)] → W p l e (headSpec wsX1_pickBySums ({ frames := 3, cells := 0, slots := 0, locals := 65 })).room s m (#[.ref (ad 14), .ref (ad (182 + 6 * b1)), .int a2]) below meth c H locs 0 0 (MQ below (va_Qv (fun (_ : Unit) => True) (fun (_ : Unit) t => wAt (dC, dI) A (wG (cC cy ad τ) ad (182 + 6 * nb) σ9) t) A) (#[.ref (ad 14), .ref (ad (182 + 6 * b1)), .int a2]) s 0 0 A) (F0 m 105 ls []) := by
    intro k2 hk2 σ x2 x3 x4 x5 H locs ls h hP hD hS hl
    unfold fX1_pickBySums_105 at h
    refine lv_aload_n hx hb dX1_pickBySums_105 rfl (lv_at hl 0 rfl) ?_
    refine ux_get (D := (dC, dI)) (ci := 1) (v := .ref (ad 17)) (C := RX1) (T := TX1) (M := 9) (fs := (oCH ad (σ.1 14))) hx hb hts (fun _ h9 => List.mem_cons_of_mem _ (List.mem_append_right _ h9)) hown hK hP 14 (Nat.lt_of_lt_of_le (Nat.le_of_ble_eq_true rfl : 14 < 182) (Nat.le_add_right _ _)) (cC_14 _ _ _ _ _) rfl 7 (by decide) (hts (.fieldLink RX1 34 "SeatsRound$Choice" "sums" "[I") (List.mem_of_getElem? (i := 3) rfl)) (fun _ h9 => h9) rfl dX1_pickBySums_106 ?_
    refine lv_iload hx hb dX1_pickBySums_109 (lv_at hl 5 rfl) ?_
    refine lv_iload hx hb dX1_pickBySums_111 (lv_at hl 4 rfl) ?_
    refine ux_iast hx hb hK hP hD hS 17 0 (Nat.lt_of_lt_of_le (Nat.le_of_ble_eq_true rfl : 17 < 182) (Nat.le_add_right _ _)) (fun _ => (cC_17 _ _ _ _ _)) rfl h dX1_pickBySums_113 (fun σ2 H locs h hP hD hS => ?_)
    refine lv_aload_n hx hb dX1_pickBySums_114 rfl (lv_at hl 0 rfl) ?_
    refine ux_get (D := (dC, dI)) (ci := 1) (v := .ref (ad 15)) (C := RX1) (T := TX1) (M := 9) (fs := (oCH ad (σ2.1 14))) hx hb hts (fun _ h9 => List.mem_cons_of_mem _ (List.mem_append_right _ h9)) hown hK hP 14 (Nat.lt_of_lt_of_le (Nat.le_of_ble_eq_true rfl : 14 < 182) (Nat.le_add_right _ _)) (cC_14 _ _ _ _ _) rfl 0 (by decide) (hts (.fieldLink RX1 9 "SeatsRound$Choice" "picks" "[I") (List.mem_of_getElem? (i := 4) rfl)) (fun _ h9 => h9) rfl dX1_pickBySums_115 ?_
    refine lv_iload hx hb dX1_pickBySums_118 (lv_at hl 5 rfl) ?_
    refine lv_iload_n hx hb dX1_pickBySums_120 rfl (lv_at hl 3 rfl) ?_
    refine ux_iast hx hb hK hP hD hS 15 0 (Nat.lt_of_lt_of_le (Nat.le_of_ble_eq_true rfl : 15 < 182) (Nat.le_add_right _ _)) (fun _ => (cC_15 _ _ _ _ _)) rfl h dX1_pickBySums_121 (fun σ3 H locs h hP hD hS => ?_)
    refine lv_aload_n hx hb dX1_pickBySums_122 rfl (lv_at hl 0 rfl) ?_
    refine lv_dup hx hb dX1_pickBySums_123 rfl ?_
    refine ux_get (D := (dC, dI)) (ci := 1) (v := .int (σ3.1 14 2)) (C := RX1) (T := TX1) (M := 9) (fs := (oCH ad (σ3.1 14))) hx hb hts (fun _ h9 => List.mem_cons_of_mem _ (List.mem_append_right _ h9)) hown hK hP 14 (Nat.lt_of_lt_of_le (Nat.le_of_ble_eq_true rfl : 14 < 182) (Nat.le_add_right _ _)) (cC_14 _ _ _ _ _) rfl 2 (by decide) (hts (.fieldLink RX1 18 "SeatsRound$Choice" "pickCount" "I") (List.mem_of_getElem? (i := 2) rfl)) (fun _ h9 => h9) rfl dX1_pickBySums_124 ?_
    refine lv_iconst (v := 1) hx hb dX1_pickBySums_127 (by decide) ?_
    refine lv_iadd hx hb dX1_pickBySums_128 ?_
    refine ux_put (D := (dC, dI)) (ci := 1) (C := RX1) (T := TX1) (M := 9) (fs := (oCH ad (σ3.1 14))) hx hb hts (fun _ h9 => List.mem_cons_of_mem _ (List.mem_append_right _ h9)) tyX1 tyX1_ok nmX1 hown hK hP hD hS 14 (Nat.lt_of_lt_of_le (Nat.le_of_ble_eq_true rfl : 14 < 182) (Nat.le_add_right _ _)) (cC_14 _ _ _ _ _) rfl 2 (by decide) (hts (.fieldLink RX1 18 "SeatsRound$Choice" "pickCount" "I") (List.mem_of_getElem? (i := 2) rfl)) (fun _ h9 => h9) rfl (tyX1_ok 2 (by decide)) rfl rfl (Nat.le_of_ble_eq_true rfl) (oC_14_2 _ _ _ _ _ _) h dX1_pickBySums_129 (fun σ4 H locs h hP hD hS => ?_)
    exact w132 _ hk2 σ4 x2 x3 H locs ls h hP hD hS (lv_sub hl [0, 1, 2, 3] rfl)
  have w42 : ∀ (k2 : S2 → Int32 → Int32 → Option (Unit × S2)) (hk2 : ∀ (σ : S2) (x2 : Int32) (x3 : Int32) (H : Heap) (locs : List Loc) (ls : Array Slot), k2 σ x2 x3 = some (r0, σ9) → va_P (dC, dI) vwCl (wG (cC cy ad τ) ad (182 + 6 * nb) σ) H → va_D A (wG (cC cy ad τ) ad (182 + 6 * nb) σ) → va_S A s.heap H locs → lv_has ls 7 [(0, .ref (ad 14)), (1, .ref (ad (182 + 6 * b1))), (2, .int x2), (3, .int x3)] → W p l e (headSpec wsX1_pickBySums ({ frames := 3, cells := 0, slots := 0, locals := 65 })).room s m (#[.ref (ad 14), .ref (ad (182 + 6 * b1)), .int a2]) below meth c H locs 0 0 (MQ below (va_Qv (fun (_ : Unit) => True) (fun (_ : Unit) t => wAt (dC, dI) A (wG (cC cy ad τ) ad (182 + 6 * nb) σ9) t) A) (#[.ref (ad 14), .ref (ad (182 + 6 * b1)), .int a2]) s 0 0 A) (F0 m 2 ls [])) (n : Nat), ∀ (σ : S2) (x2 : Int32) (x3 : Int32) (x4 : Int32) (x5 : Int32) (x6 : Int32) (H : Heap) (locs : List Loc) (ls : Array Slot), fX1_pickBySums_42 τ b1 k2 n σ x2 x3 x4 x5 x6 = some (r0, σ9) → va_P (dC, dI) vwCl (wG (cC cy ad τ) ad (182 + 6 * nb) σ) H → va_D A (wG (cC cy ad τ) ad (182 + 6 * nb) σ) → va_S A s.heap H locs → lv_has ls 7 [(0, .ref (ad 14)), (1, .ref (ad (182 + 6 * b1))), (2, .int x2), (3, .int x3), (4, .int x4), (5, .int x5), (6, .int x6)] → W p l e (headSpec wsX1_pickBySums ({ frames := 3, cells := 0, slots := 0, locals := 65 })).room s m (#[.ref (ad 14), .ref (ad (182 + 6 * b1)), .int a2]) below meth c H locs 0 0 (MQ below (va_Qv (fun (_ : Unit) => True) (fun (_ : Unit) t => wAt (dC, dI) A (wG (cC cy ad τ) ad (182 + 6 * nb) σ9) t) A) (#[.ref (ad 14), .ref (ad (182 + 6 * b1)), .int a2]) s 0 0 A) (F0 m 42 ls []) := by
    intro k2 hk2 n
    induction n with
    | zero => intro σ x2 x3 x4 x5 x6 H locs ls h; cases h
    | succ n ih =>
    intro σ x2 x3 x4 x5 x6 H locs ls h hP hD hS hl
    unfold fX1_pickBySums_42 at h
    refine lv_iload hx hb dX1_pickBySums_42 (lv_at hl 6 rfl) ?_
    refine lv_if_le (tgt := 105) hx hb dX1_pickBySums_44 (by decide) (fun hcd => ?_) (fun hcd => ?_)
    · have h := cdP hcd h
      exact w105 _ hk2 σ x2 x3 x4 x5 H locs ls h hP hD hS (lv_sub hl [0, 1, 2, 3, 4, 5] rfl)
    · have h := cdN hcd h
      refine lv_aload_n hx hb dX1_pickBySums_47 rfl (lv_at hl 0 rfl) ?_
      refine ux_get (D := (dC, dI)) (ci := 1) (v := .ref (ad 17)) (C := RX1) (T := TX1) (M := 9) (fs := (oCH ad (σ.1 14))) hx hb hts (fun _ h9 => List.mem_cons_of_mem _ (List.mem_append_right _ h9)) hown hK hP 14 (Nat.lt_of_lt_of_le (Nat.le_of_ble_eq_true rfl : 14 < 182) (Nat.le_add_right _ _)) (cC_14 _ _ _ _ _) rfl 7 (by decide) (hts (.fieldLink RX1 34 "SeatsRound$Choice" "sums" "[I") (List.mem_of_getElem? (i := 3) rfl)) (fun _ h9 => h9) rfl dX1_pickBySums_48 ?_
      refine lv_iload hx hb dX1_pickBySums_51 (lv_at hl 6 rfl) ?_
      refine lv_iconst (v := 1) hx hb dX1_pickBySums_53 (by decide) ?_
      refine lv_isub hx hb dX1_pickBySums_54 ?_
      refine ux_iald hx hb hK hP 17 0 (Nat.lt_of_lt_of_le (Nat.le_of_ble_eq_true rfl : 17 < 182) (Nat.le_add_right _ _)) (cC_17 _ _ _ _ _) rfl h dX1_pickBySums_55 (fun v5 h => ?_)
      refine lv_iload hx hb dX1_pickBySums_56 (lv_at hl 4 rfl) ?_
      refine lv_icmp_ge (tgt := 105) hx hb dX1_pickBySums_58 (by decide) (fun hcd => ?_) (fun hcd => ?_)
      · have h := cdP hcd h
        exact w105 _ hk2 σ x2 x3 x4 x5 H locs ls h hP hD hS (lv_sub hl [0, 1, 2, 3, 4, 5] rfl)
      · have h := cdN hcd h
        refine lv_aload_n hx hb dX1_pickBySums_61 rfl (lv_at hl 0 rfl) ?_
        refine ux_get (D := (dC, dI)) (ci := 1) (v := .ref (ad 17)) (C := RX1) (T := TX1) (M := 9) (fs := (oCH ad (σ.1 14))) hx hb hts (fun _ h9 => List.mem_cons_of_mem _ (List.mem_append_right _ h9)) hown hK hP 14 (Nat.lt_of_lt_of_le (Nat.le_of_ble_eq_true rfl : 14 < 182) (Nat.le_add_right _ _)) (cC_14 _ _ _ _ _) rfl 7 (by decide) (hts (.fieldLink RX1 34 "SeatsRound$Choice" "sums" "[I") (List.mem_of_getElem? (i := 3) rfl)) (fun _ h9 => h9) rfl dX1_pickBySums_62 ?_
        refine lv_iload hx hb dX1_pickBySums_65 (lv_at hl 6 rfl) ?_
        refine lv_aload_n hx hb dX1_pickBySums_67 rfl (lv_at hl 0 rfl) ?_
        refine ux_get (D := (dC, dI)) (ci := 1) (v := .ref (ad 17)) (C := RX1) (T := TX1) (M := 9) (fs := (oCH ad (σ.1 14))) hx hb hts (fun _ h9 => List.mem_cons_of_mem _ (List.mem_append_right _ h9)) hown hK hP 14 (Nat.lt_of_lt_of_le (Nat.le_of_ble_eq_true rfl : 14 < 182) (Nat.le_add_right _ _)) (cC_14 _ _ _ _ _) rfl 7 (by decide) (hts (.fieldLink RX1 34 "SeatsRound$Choice" "sums" "[I") (List.mem_of_getElem? (i := 3) rfl)) (fun _ h9 => h9) rfl dX1_pickBySums_68 ?_
        refine lv_iload hx hb dX1_pickBySums_71 (lv_at hl 6 rfl) ?_
        refine lv_iconst (v := 1) hx hb dX1_pickBySums_73 (by decide) ?_
        refine lv_isub hx hb dX1_pickBySums_74 ?_
        change W _ _ _ _ _ _ _ _ _ _ _ _ _ _ _ (F0 m 75 ls [.int (x6 - 1), .ref (ad 17), .int x6, .ref (ad 17)])
        refine ux_iald hx hb hK hP 17 0 (Nat.lt_of_lt_of_le (Nat.le_of_ble_eq_true rfl : 17 < 182) (Nat.le_add_right _ _)) (cC_17 _ _ _ _ _) rfl h dX1_pickBySums_75 (fun v6 h => ?_)
        refine ux_iast hx hb hK hP hD hS 17 0 (Nat.lt_of_lt_of_le (Nat.le_of_ble_eq_true rfl : 17 < 182) (Nat.le_add_right _ _)) (fun _ => (cC_17 _ _ _ _ _)) rfl h dX1_pickBySums_76 (fun σ7 H locs h hP hD hS => ?_)
        refine lv_aload_n hx hb dX1_pickBySums_77 rfl (lv_at hl 0 rfl) ?_
        refine ux_get (D := (dC, dI)) (ci := 1) (v := .ref (ad 15)) (C := RX1) (T := TX1) (M := 9) (fs := (oCH ad (σ7.1 14))) hx hb hts (fun _ h9 => List.mem_cons_of_mem _ (List.mem_append_right _ h9)) hown hK hP 14 (Nat.lt_of_lt_of_le (Nat.le_of_ble_eq_true rfl : 14 < 182) (Nat.le_add_right _ _)) (cC_14 _ _ _ _ _) rfl 0 (by decide) (hts (.fieldLink RX1 9 "SeatsRound$Choice" "picks" "[I") (List.mem_of_getElem? (i := 4) rfl)) (fun _ h9 => h9) rfl dX1_pickBySums_78 ?_
        refine lv_iload hx hb dX1_pickBySums_81 (lv_at hl 6 rfl) ?_
        refine lv_aload_n hx hb dX1_pickBySums_83 rfl (lv_at hl 0 rfl) ?_
        refine ux_get (D := (dC, dI)) (ci := 1) (v := .ref (ad 15)) (C := RX1) (T := TX1) (M := 9) (fs := (oCH ad (σ7.1 14))) hx hb hts (fun _ h9 => List.mem_cons_of_mem _ (List.mem_append_right _ h9)) hown hK hP 14 (Nat.lt_of_lt_of_le (Nat.le_of_ble_eq_true rfl : 14 < 182) (Nat.le_add_right _ _)) (cC_14 _ _ _ _ _) rfl 0 (by decide) (hts (.fieldLink RX1 9 "SeatsRound$Choice" "picks" "[I") (List.mem_of_getElem? (i := 4) rfl)) (fun _ h9 => h9) rfl dX1_pickBySums_84 ?_
        refine lv_iload hx hb dX1_pickBySums_87 (lv_at hl 6 rfl) ?_
        refine lv_iconst (v := 1) hx hb dX1_pickBySums_89 (by decide) ?_
        refine lv_isub hx hb dX1_pickBySums_90 ?_
        change W _ _ _ _ _ _ _ _ _ _ _ _ _ _ _ (F0 m 91 ls [.int (x6 - 1), .ref (ad 15), .int x6, .ref (ad 15)])
        refine ux_iald hx hb hK hP 15 0 (Nat.lt_of_lt_of_le (Nat.le_of_ble_eq_true rfl : 15 < 182) (Nat.le_add_right _ _)) (cC_15 _ _ _ _ _) rfl h dX1_pickBySums_91 (fun v8 h => ?_)
        refine ux_iast hx hb hK hP hD hS 15 0 (Nat.lt_of_lt_of_le (Nat.le_of_ble_eq_true rfl : 15 < 182) (Nat.le_add_right _ _)) (fun _ => (cC_15 _ _ _ _ _)) rfl h dX1_pickBySums_92 (fun σ9 H locs h hP hD hS => ?_)
        refine lv_iload hx hb dX1_pickBySums_93 (lv_at hl 6 rfl) ?_
        refine lv_iconst (v := 1) hx hb dX1_pickBySums_95 (by decide) ?_
        refine lv_isub hx hb dX1_pickBySums_96 ?_
        refine lv_topi (fun v10 ev10 => ?_)
        have h := nmS h ev10
        refine lv_istore (lv' := [(5, .int v10), (0, .ref (ad 14)), (1, .ref (ad (182 + 6 * b1))), (2, .int x2), (3, .int x3), (4, .int x4), (6, .int x6)]) hx hb dX1_pickBySums_97 hl (by decide) rfl (fun ls hl => ?_)
        have hl := lv_sub hl [1, 2, 3, 4, 5, 0, 6] (l' := [(0, .ref (ad 14)), (1, .ref (ad (182 + 6 * b1))), (2, .int x2), (3, .int x3), (4, .int x4), (5, .int v10), (6, .int x6)]) rfl
        obtain ⟨v11, ev11⟩ : ∃ y : Int32, y = x6 + (-1) := ⟨_, rfl⟩
        have h := nmS h ev11
        refine lv_iinc (v := v11) (lv' := [(6, .int v11), (0, .ref (ad 14)), (1, .ref (ad (182 + 6 * b1))), (2, .int x2), (3, .int x3), (4, .int x4), (5, .int v10)]) hx hb dX1_pickBySums_99 hl (k := 6) rfl (by rw [ev11]; rfl) (by decide) rfl (fun ls hl => ?_)
        have hl := lv_sub hl [1, 2, 3, 4, 5, 6, 0] (l' := [(0, .ref (ad 14)), (1, .ref (ad (182 + 6 * b1))), (2, .int x2), (3, .int x3), (4, .int x4), (5, .int v10), (6, .int v11)]) rfl
        refine lv_goto (tgt := 42) hx hb dX1_pickBySums_102 (by decide) ?_
        exact ih σ9 x2 x3 x4 v10 v11 H locs ls h hP hD hS hl
  have w2 : ∀ (n : Nat), ∀ (σ : S2) (x2 : Int32) (x3 : Int32) (H : Heap) (locs : List Loc) (ls : Array Slot), fX1_pickBySums_2 τ b1 n σ x2 x3 = some (r0, σ9) → va_P (dC, dI) vwCl (wG (cC cy ad τ) ad (182 + 6 * nb) σ) H → va_D A (wG (cC cy ad τ) ad (182 + 6 * nb) σ) → va_S A s.heap H locs → lv_has ls 7 [(0, .ref (ad 14)), (1, .ref (ad (182 + 6 * b1))), (2, .int x2), (3, .int x3)] → W p l e (headSpec wsX1_pickBySums ({ frames := 3, cells := 0, slots := 0, locals := 65 })).room s m (#[.ref (ad 14), .ref (ad (182 + 6 * b1)), .int a2]) below meth c H locs 0 0 (MQ below (va_Qv (fun (_ : Unit) => True) (fun (_ : Unit) t => wAt (dC, dI) A (wG (cC cy ad τ) ad (182 + 6 * nb) σ9) t) A) (#[.ref (ad 14), .ref (ad (182 + 6 * b1)), .int a2]) s 0 0 A) (F0 m 2 ls []) := by
    intro n
    induction n with
    | zero => intro σ x2 x3 H locs ls h; cases h
    | succ n ih =>
    intro σ x2 x3 H locs ls h hP hD hS hl
    unfold fX1_pickBySums_2 at h
    refine lv_iload_n hx hb dX1_pickBySums_2 rfl (lv_at hl 3 rfl) ?_
    refine lv_bipush (v := 12) hx hb dX1_pickBySums_3 (by decide) ?_
    refine lv_icmp_ge (tgt := 138) hx hb dX1_pickBySums_5 (by decide) (fun hcd => ?_) (fun hcd => ?_)
    · have h := cdP hcd h
      refine lv_aload_n hx hb dX1_pickBySums_138 rfl (lv_at hl 0 rfl) ?_
      refine lv_aload_n hx hb dX1_pickBySums_139 rfl (lv_at hl 1 rfl) ?_
      refine ux_get (D := (dC, dI)) (ci := 8) (v := .int (σ.1 (182 + 6 * b1) 0)) (C := RX8) (T := TX8) (M := 13) (fs := (oTB ad (182 + 6 * b1) (σ.1 (182 + 6 * b1)))) hx hb hts (fun _ h9 => List.mem_cons_of_mem _ (List.mem_append_left _ (List.mem_append_right _ h9))) hown hK hP (182 + 6 * b1) (by omega) (cC_t0 _ _ _ _ _ b1) rfl 0 (by decide) (hts (.fieldLink RX1 59 "SeatsRound$Table" "members" "I") (List.mem_of_getElem? (i := 1) rfl)) (fun _ h9 => h9) rfl dX1_pickBySums_140 ?_
      refine ux_put (D := (dC, dI)) (ci := 1) (C := RX1) (T := TX1) (M := 9) (fs := (oCH ad (σ.1 14))) hx hb hts (fun _ h9 => List.mem_cons_of_mem _ (List.mem_append_right _ h9)) tyX1 tyX1_ok nmX1 hown hK hP hD hS 14 (Nat.lt_of_lt_of_le (Nat.le_of_ble_eq_true rfl : 14 < 182) (Nat.le_add_right _ _)) (cC_14 _ _ _ _ _) rfl 6 (by decide) (hts (.fieldLink RX1 31 "SeatsRound$Choice" "pickBits" "I") (List.mem_of_getElem? (i := 5) rfl)) (fun _ h9 => h9) rfl (tyX1_ok 6 (by decide)) rfl rfl (Nat.le_of_ble_eq_true rfl) (oC_14_6 _ _ _ _ _ _) h dX1_pickBySums_143 (fun σ12 H locs h hP hD hS => ?_)
      exact ux_vret hx hb hr h hP hD hS hlocks dX1_pickBySums_146
    · have h := cdN hcd h
      refine lv_aload_n hx hb dX1_pickBySums_8 rfl (lv_at hl 1 rfl) ?_
      refine ux_get (D := (dC, dI)) (ci := 8) (v := .int (σ.1 (182 + 6 * b1) 0)) (C := RX8) (T := TX8) (M := 13) (fs := (oTB ad (182 + 6 * b1) (σ.1 (182 + 6 * b1)))) hx hb hts (fun _ h9 => List.mem_cons_of_mem _ (List.mem_append_left _ (List.mem_append_right _ h9))) hown hK hP (182 + 6 * b1) (by omega) (cC_t0 _ _ _ _ _ b1) rfl 0 (by decide) (hts (.fieldLink RX1 59 "SeatsRound$Table" "members" "I") (List.mem_of_getElem? (i := 1) rfl)) (fun _ h9 => h9) rfl dX1_pickBySums_9 ?_
      refine lv_iload_n hx hb dX1_pickBySums_12 rfl (lv_at hl 3 rfl) ?_
      refine lv_ishr hx hb dX1_pickBySums_13 ?_
      refine lv_iconst (v := 1) hx hb dX1_pickBySums_14 (by decide) ?_
      refine lv_iand hx hb dX1_pickBySums_15 ?_
      refine lv_if_ne (tgt := 22) hx hb dX1_pickBySums_16 (by decide) (fun hcd => ?_) (fun hcd => ?_)
      · have h := cdN hcd h
        refine lv_aload_n hx hb dX1_pickBySums_22 rfl (lv_at hl 1 rfl) ?_
        refine lv_iload_n hx hb dX1_pickBySums_23 rfl (lv_at hl 3 rfl) ?_
        refine lv_iload_n hx hb dX1_pickBySums_24 rfl (lv_at hl 2 rfl) ?_
        obtain ⟨r13, hf14, h⟩ := biS h
        refine ux_calli (va_runV (As := [.int x3, .int x2]) (rest := []) ⟨hx, hb, hml, hown, hts⟩ (tX8_sumOf l dC dI cy ad τ nb hτ b1 (by omega) σ x3 x2 H.size r13 hf14) (cwV 2 hts gX1_pickBySums_X8_sumOf rfl rfl rfl (by decide +kernel) ⟨Nat.le_of_ble_eq_true rfl, Nat.le_of_ble_eq_true rfl⟩) (wp_V hK hN hP hD (va_recv hK hP (ci := 8) (q0 := (182 + 6 * b1)) rfl (wG_of (by omega) (cC_t0 _ _ _ _ _ b1)))) rfl rfl hl.1 rfl (lv_room (Nat.le_of_ble_eq_true rfl)) dX1_pickBySums_25 ⟨Nat.le_of_ble_eq_true rfl, Nat.le_of_ble_eq_true rfl⟩) hD hS hA (fun H locs hP hD hS => ?_)
        refine lv_istore (lv' := [(4, .int r13), (0, .ref (ad 14)), (1, .ref (ad (182 + 6 * b1))), (2, .int x2), (3, .int x3)]) hx hb dX1_pickBySums_28 hl (by decide) rfl (fun ls hl => ?_)
        have hl := lv_sub hl [1, 2, 3, 4, 0] (l' := [(0, .ref (ad 14)), (1, .ref (ad (182 + 6 * b1))), (2, .int x2), (3, .int x3), (4, .int r13)]) rfl
        refine lv_aload_n hx hb dX1_pickBySums_30 rfl (lv_at hl 0 rfl) ?_
        refine ux_get (D := (dC, dI)) (ci := 1) (v := .int (σ.1 14 2)) (C := RX1) (T := TX1) (M := 9) (fs := (oCH ad (σ.1 14))) hx hb hts (fun _ h9 => List.mem_cons_of_mem _ (List.mem_append_right _ h9)) hown hK hP 14 (Nat.lt_of_lt_of_le (Nat.le_of_ble_eq_true rfl : 14 < 182) (Nat.le_add_right _ _)) (cC_14 _ _ _ _ _) rfl 2 (by decide) (hts (.fieldLink RX1 18 "SeatsRound$Choice" "pickCount" "I") (List.mem_of_getElem? (i := 2) rfl)) (fun _ h9 => h9) rfl dX1_pickBySums_31 ?_
        refine lv_topi (fun v15 ev15 => ?_)
        have h := nmS h ev15
        refine lv_istore (lv' := [(5, .int v15), (0, .ref (ad 14)), (1, .ref (ad (182 + 6 * b1))), (2, .int x2), (3, .int x3), (4, .int r13)]) hx hb dX1_pickBySums_34 hl (by decide) rfl (fun ls hl => ?_)
        have hl := lv_sub hl [1, 2, 3, 4, 5, 0] (l' := [(0, .ref (ad 14)), (1, .ref (ad (182 + 6 * b1))), (2, .int x2), (3, .int x3), (4, .int r13), (5, .int v15)]) rfl
        refine lv_aload_n hx hb dX1_pickBySums_36 rfl (lv_at hl 0 rfl) ?_
        refine ux_get (D := (dC, dI)) (ci := 1) (v := .int (σ.1 14 2)) (C := RX1) (T := TX1) (M := 9) (fs := (oCH ad (σ.1 14))) hx hb hts (fun _ h9 => List.mem_cons_of_mem _ (List.mem_append_right _ h9)) hown hK hP 14 (Nat.lt_of_lt_of_le (Nat.le_of_ble_eq_true rfl : 14 < 182) (Nat.le_add_right _ _)) (cC_14 _ _ _ _ _) rfl 2 (by decide) (hts (.fieldLink RX1 18 "SeatsRound$Choice" "pickCount" "I") (List.mem_of_getElem? (i := 2) rfl)) (fun _ h9 => h9) rfl dX1_pickBySums_37 ?_
        refine lv_topi (fun v16 ev16 => ?_)
        have h := nmS h ev16
        refine lv_istore (lv' := [(6, .int v16), (0, .ref (ad 14)), (1, .ref (ad (182 + 6 * b1))), (2, .int x2), (3, .int x3), (4, .int r13), (5, .int v15)]) hx hb dX1_pickBySums_40 hl (by decide) rfl (fun ls hl => ?_)
        have hl := lv_sub hl [1, 2, 3, 4, 5, 6, 0] (l' := [(0, .ref (ad 14)), (1, .ref (ad (182 + 6 * b1))), (2, .int x2), (3, .int x3), (4, .int r13), (5, .int v15), (6, .int v16)]) rfl
        exact w42 _ ih FU σ x2 x3 r13 v15 v16 H locs ls h hP hD hS hl
      · have h := cdP hcd h
        refine lv_goto (tgt := 132) hx hb dX1_pickBySums_19 (by decide) ?_
        exact w132 _ ih σ x2 x3 H locs ls h hP hD hS hl
  have w0 : ∀ (σ : S2) (x2 : Int32) (H : Heap) (locs : List Loc) (ls : Array Slot), fX1_pickBySums_0 τ b1 σ x2 = some (r0, σ9) → va_P (dC, dI) vwCl (wG (cC cy ad τ) ad (182 + 6 * nb) σ) H → va_D A (wG (cC cy ad τ) ad (182 + 6 * nb) σ) → va_S A s.heap H locs → lv_has ls 7 [(0, .ref (ad 14)), (1, .ref (ad (182 + 6 * b1))), (2, .int x2)] → W p l e (headSpec wsX1_pickBySums ({ frames := 3, cells := 0, slots := 0, locals := 65 })).room s m (#[.ref (ad 14), .ref (ad (182 + 6 * b1)), .int a2]) below meth c H locs 0 0 (MQ below (va_Qv (fun (_ : Unit) => True) (fun (_ : Unit) t => wAt (dC, dI) A (wG (cC cy ad τ) ad (182 + 6 * nb) σ9) t) A) (#[.ref (ad 14), .ref (ad (182 + 6 * b1)), .int a2]) s 0 0 A) (F0 m 0 ls []) := by
    intro σ x2 H locs ls h hP hD hS hl
    unfold fX1_pickBySums_0 at h
    refine lv_iconst (v := 0) hx hb dX1_pickBySums_0 (by decide) ?_
    refine lv_istore_n (lv' := [(3, .int 0), (0, .ref (ad 14)), (1, .ref (ad (182 + 6 * b1))), (2, .int x2)]) hx hb dX1_pickBySums_1 rfl hl (by decide) rfl (fun ls hl => ?_)
    have hl := lv_sub hl [1, 2, 3, 0] (l' := [(0, .ref (ad 14)), (1, .ref (ad (182 + 6 * b1))), (2, .int x2), (3, .int 0)]) rfl
    exact w2 FU σ x2 0 H locs ls h hP hD hS hl
  intro H locs ls h hP hD hS hl
  exact w0 σ a2 H locs ls h hP hD hS (lv_sub hl [0, 1, 2] rfl)

set_option maxHeartbeats 4000000 in
set_option maxRecDepth 100000 in
theorem tX1_isPicked (l : Launch) (dC : Nat → ClassId) (dI : Nat → Nat → Nat) (cy : Nat → ClassId) (ad : Nat → Nat) (τ nb : Nat) (hτ : τ < nb) (σ : S2) (a1 : Int32) (sz : Nat) (r0 : Int32) (h : fX1_isPicked τ σ a1 = some r0) : Met l yX1_isPicked wsX1_isPicked ({ frames := 1, cells := 0, slots := 0, locals := 23 }) (va_Pc [.ref (ad 14), .int a1] (wPre (dC, dI) cy (wG (cC cy ad τ) ad (182 + 6 * nb) σ) sz)) (va_Qi (fun (r : Int32) (_ : Unit) => r = r0) (fun (_ : Unit) t => wAt (dC, dI) (va_A (wG (cC cy ad τ) ad (182 + 6 * nb) σ) sz) (wG (cC cy ad τ) ad (182 + 6 * nb) σ) t) (va_A (wG (cC cy ad τ) ad (182 + 6 * nb) σ) sz)) 0 0 (va_A (wG (cC cy ad τ) ad (182 + 6 * nb) σ) sz) := by
  refine Met.ofW (cc := cX1_isPicked) (maxL := 2) (ret := (some .boolean)) (by decide) rfl ?_
  intro p e s m args below meth c s₁ B hml hv
  obtain ⟨rfl, hsz, hP, hK, hD0, hN⟩ := hv
  have hx := B.exec
  have hb := B.bytes
  have hr := B.returns
  have hts := atoms_spec (ws := wsX1_isPicked) B.pre
  have hown : s.vm.findClass RX1 = some m.cls := findClass_of_methodNamed B.named
  have hlocks := B.notSynchronized
  subst hsz
  have hD := hD0.self (sz := s.heap.size)
  generalize hAe : va_A (wG (cC cy ad τ) ad (182 + 6 * nb) σ) s.heap.size = A at hD ⊢
  have hA : ∀ q : Nat, s.heap.size ≤ q → A q := fun q h => by rw [← hAe]; exact Or.inr h
  have hS : va_S A s.heap s.heap [] := va_S.rf
  have hl := lv_entry ([.ref (ad 14), .int a1]) (n := 2) (Nat.le_of_ble_eq_true rfl)
  rw [lg_entry_eq]
  generalize (lg_sl ([.ref (ad 14), .int a1]) ++ List.replicate (2 - (lg_sl ([.ref (ad 14), .int a1])).length) Slot.unset).toArray = ls at hl ⊢
  have hl : lv_has ls 2 [(0, .ref (ad 14)), (1, .int a1)] := hl
  unfold fX1_isPicked at h
  clear hAe hD0
  suffices HH : ∀ (H : Heap) (locs : List Loc) (ls : Array Slot), fX1_isPicked_0 τ σ a1 = some r0 → va_P (dC, dI) vwCl (wG (cC cy ad τ) ad (182 + 6 * nb) σ) H → va_D A (wG (cC cy ad τ) ad (182 + 6 * nb) σ) → va_S A s.heap H locs → lv_has ls 2 [(0, .ref (ad 14)), (1, .int a1)] → W p l e (headSpec wsX1_isPicked ({ frames := 1, cells := 0, slots := 0, locals := 23 })).room s m (#[.ref (ad 14), .int a1]) below meth c H locs 0 0 (MQ below (va_Qi (fun (r : Int32) (_ : Unit) => r = r0) (fun (_ : Unit) t => wAt (dC, dI) A (wG (cC cy ad τ) ad (182 + 6 * nb) σ) t) A) (#[.ref (ad 14), .int a1]) s 0 0 A) (F0 m 0 ls []) from HH s.heap [] ls h hP hD hS hl
  have w0 : ∀ (σ : S2) (x1 : Int32) (H : Heap) (locs : List Loc) (ls : Array Slot), fX1_isPicked_0 τ σ x1 = some r0 → va_P (dC, dI) vwCl (wG (cC cy ad τ) ad (182 + 6 * nb) σ) H → va_D A (wG (cC cy ad τ) ad (182 + 6 * nb) σ) → va_S A s.heap H locs → lv_has ls 2 [(0, .ref (ad 14)), (1, .int x1)] → W p l e (headSpec wsX1_isPicked ({ frames := 1, cells := 0, slots := 0, locals := 23 })).room s m (#[.ref (ad 14), .int a1]) below meth c H locs 0 0 (MQ below (va_Qi (fun (r : Int32) (_ : Unit) => r = r0) (fun (_ : Unit) t => wAt (dC, dI) A (wG (cC cy ad τ) ad (182 + 6 * nb) σ) t) A) (#[.ref (ad 14), .int a1]) s 0 0 A) (F0 m 0 ls []) := by
    intro σ x1 H locs ls h hP hD hS hl
    unfold fX1_isPicked_0 at h
    refine lv_aload_n hx hb dX1_isPicked_0 rfl (lv_at hl 0 rfl) ?_
    refine ux_get (D := (dC, dI)) (ci := 1) (v := .int (σ.1 14 6)) (C := RX1) (T := TX1) (M := 9) (fs := (oCH ad (σ.1 14))) hx hb hts (fun _ h9 => List.mem_cons_of_mem _ (List.mem_append_right _ h9)) hown hK hP 14 (Nat.lt_of_lt_of_le (Nat.le_of_ble_eq_true rfl : 14 < 182) (Nat.le_add_right _ _)) (cC_14 _ _ _ _ _) rfl 6 (by decide) (hts (.fieldLink RX1 31 "SeatsRound$Choice" "pickBits" "I") (List.mem_of_getElem? (i := 1) rfl)) (fun _ h9 => h9) rfl dX1_isPicked_1 ?_
    refine lv_iload_n hx hb dX1_isPicked_4 rfl (lv_at hl 1 rfl) ?_
    refine lv_ishr hx hb dX1_isPicked_5 ?_
    refine lv_iconst (v := 1) hx hb dX1_isPicked_6 (by decide) ?_
    refine lv_iand hx hb dX1_isPicked_7 ?_
    refine lv_iconst (v := 1) hx hb dX1_isPicked_8 (by decide) ?_
    refine lv_icmp_ne (tgt := 16) hx hb dX1_isPicked_9 (by decide) (fun hcd => ?_) (fun hcd => ?_)
    · have h := cdN hcd h
      refine lv_iconst (v := 0) hx hb dX1_isPicked_16 (by decide) ?_
      exact ux_zretP hx hb hr rfl h hP hD hS hlocks dX1_isPicked_17
    · have h := cdP hcd h
      refine lv_iconst (v := 1) hx hb dX1_isPicked_12 (by decide) ?_
      refine lv_goto (tgt := 17) hx hb dX1_isPicked_13 (by decide) ?_
      exact ux_zretP hx hb hr rfl h hP hD hS hlocks dX1_isPicked_17
  intro H locs ls h hP hD hS hl
  exact w0 σ a1 H locs ls h hP hD hS (lv_sub hl [0, 1] rfl)

set_option maxHeartbeats 4000000 in
set_option maxRecDepth 100000 in
theorem tX1_takePick (l : Launch) (dC : Nat → ClassId) (dI : Nat → Nat → Nat) (cy : Nat → ClassId) (ad : Nat → Nat) (τ nb : Nat) (hτ : τ < nb) (σ : S2) (a1 : Int32) (sz : Nat) (r0 : Unit) (σ9 : S2) (h : fX1_takePick τ σ a1 = some (r0, σ9)) : Met l yX1_takePick wsX1_takePick ({ frames := 1, cells := 0, slots := 0, locals := 23 }) (va_Pc [.ref (ad 14), .int a1] (wPre (dC, dI) cy (wG (cC cy ad τ) ad (182 + 6 * nb) σ) sz)) (va_Qv (fun (_ : Unit) => True) (fun (_ : Unit) t => wAt (dC, dI) (va_A (wG (cC cy ad τ) ad (182 + 6 * nb) σ) sz) (wG (cC cy ad τ) ad (182 + 6 * nb) σ9) t) (va_A (wG (cC cy ad τ) ad (182 + 6 * nb) σ) sz)) 0 0 (va_A (wG (cC cy ad τ) ad (182 + 6 * nb) σ) sz) := by
  refine Met.ofW (cc := cX1_takePick) (maxL := 2) (ret := none) (by decide) rfl ?_
  intro p e s m args below meth c s₁ B hml hv
  obtain ⟨rfl, hsz, hP, hK, hD0, hN⟩ := hv
  have hx := B.exec
  have hb := B.bytes
  have hr := B.returns
  have hts := atoms_spec (ws := wsX1_takePick) B.pre
  have hown : s.vm.findClass RX1 = some m.cls := findClass_of_methodNamed B.named
  have hlocks := B.notSynchronized
  subst hsz
  have hD := hD0.self (sz := s.heap.size)
  generalize hAe : va_A (wG (cC cy ad τ) ad (182 + 6 * nb) σ) s.heap.size = A at hD ⊢
  have hA : ∀ q : Nat, s.heap.size ≤ q → A q := fun q h => by rw [← hAe]; exact Or.inr h
  have hS : va_S A s.heap s.heap [] := va_S.rf
  have hl := lv_entry ([.ref (ad 14), .int a1]) (n := 2) (Nat.le_of_ble_eq_true rfl)
  rw [lg_entry_eq]
  generalize (lg_sl ([.ref (ad 14), .int a1]) ++ List.replicate (2 - (lg_sl ([.ref (ad 14), .int a1])).length) Slot.unset).toArray = ls at hl ⊢
  have hl : lv_has ls 2 [(0, .ref (ad 14)), (1, .int a1)] := hl
  unfold fX1_takePick at h
  clear hAe hD0
  suffices HH : ∀ (H : Heap) (locs : List Loc) (ls : Array Slot), fX1_takePick_0 τ σ a1 = some (r0, σ9) → va_P (dC, dI) vwCl (wG (cC cy ad τ) ad (182 + 6 * nb) σ) H → va_D A (wG (cC cy ad τ) ad (182 + 6 * nb) σ) → va_S A s.heap H locs → lv_has ls 2 [(0, .ref (ad 14)), (1, .int a1)] → W p l e (headSpec wsX1_takePick ({ frames := 1, cells := 0, slots := 0, locals := 23 })).room s m (#[.ref (ad 14), .int a1]) below meth c H locs 0 0 (MQ below (va_Qv (fun (_ : Unit) => True) (fun (_ : Unit) t => wAt (dC, dI) A (wG (cC cy ad τ) ad (182 + 6 * nb) σ9) t) A) (#[.ref (ad 14), .int a1]) s 0 0 A) (F0 m 0 ls []) from HH s.heap [] ls h hP hD hS hl
  have w0 : ∀ (σ : S2) (x1 : Int32) (H : Heap) (locs : List Loc) (ls : Array Slot), fX1_takePick_0 τ σ x1 = some (r0, σ9) → va_P (dC, dI) vwCl (wG (cC cy ad τ) ad (182 + 6 * nb) σ) H → va_D A (wG (cC cy ad τ) ad (182 + 6 * nb) σ) → va_S A s.heap H locs → lv_has ls 2 [(0, .ref (ad 14)), (1, .int x1)] → W p l e (headSpec wsX1_takePick ({ frames := 1, cells := 0, slots := 0, locals := 23 })).room s m (#[.ref (ad 14), .int a1]) below meth c H locs 0 0 (MQ below (va_Qv (fun (_ : Unit) => True) (fun (_ : Unit) t => wAt (dC, dI) A (wG (cC cy ad τ) ad (182 + 6 * nb) σ9) t) A) (#[.ref (ad 14), .int a1]) s 0 0 A) (F0 m 0 ls []) := by
    intro σ x1 H locs ls h hP hD hS hl
    unfold fX1_takePick_0 at h
    refine lv_aload_n hx hb dX1_takePick_0 rfl (lv_at hl 0 rfl) ?_
    refine ux_get (D := (dC, dI)) (ci := 1) (v := .int (σ.1 14 2)) (C := RX1) (T := TX1) (M := 9) (fs := (oCH ad (σ.1 14))) hx hb hts (fun _ h9 => List.mem_cons_of_mem _ (List.mem_append_right _ h9)) hown hK hP 14 (Nat.lt_of_lt_of_le (Nat.le_of_ble_eq_true rfl : 14 < 182) (Nat.le_add_right _ _)) (cC_14 _ _ _ _ _) rfl 2 (by decide) (hts (.fieldLink RX1 18 "SeatsRound$Choice" "pickCount" "I") (List.mem_of_getElem? (i := 1) rfl)) (fun _ h9 => h9) rfl dX1_takePick_1 ?_
    refine lv_bipush (v := 12) hx hb dX1_takePick_4 (by decide) ?_
    refine lv_icmp_lt (tgt := 10) hx hb dX1_takePick_6 (by decide) (fun hcd => ?_) (fun hcd => ?_)
    · have h := cdP hcd h
      refine lv_aload_n hx hb dX1_takePick_10 rfl (lv_at hl 0 rfl) ?_
      refine ux_get (D := (dC, dI)) (ci := 1) (v := .ref (ad 15)) (C := RX1) (T := TX1) (M := 9) (fs := (oCH ad (σ.1 14))) hx hb hts (fun _ h9 => List.mem_cons_of_mem _ (List.mem_append_right _ h9)) hown hK hP 14 (Nat.lt_of_lt_of_le (Nat.le_of_ble_eq_true rfl : 14 < 182) (Nat.le_add_right _ _)) (cC_14 _ _ _ _ _) rfl 0 (by decide) (hts (.fieldLink RX1 9 "SeatsRound$Choice" "picks" "[I") (List.mem_of_getElem? (i := 2) rfl)) (fun _ h9 => h9) rfl dX1_takePick_11 ?_
      refine lv_aload_n hx hb dX1_takePick_14 rfl (lv_at hl 0 rfl) ?_
      refine ux_get (D := (dC, dI)) (ci := 1) (v := .int (σ.1 14 2)) (C := RX1) (T := TX1) (M := 9) (fs := (oCH ad (σ.1 14))) hx hb hts (fun _ h9 => List.mem_cons_of_mem _ (List.mem_append_right _ h9)) hown hK hP 14 (Nat.lt_of_lt_of_le (Nat.le_of_ble_eq_true rfl : 14 < 182) (Nat.le_add_right _ _)) (cC_14 _ _ _ _ _) rfl 2 (by decide) (hts (.fieldLink RX1 18 "SeatsRound$Choice" "pickCount" "I") (List.mem_of_getElem? (i := 1) rfl)) (fun _ h9 => h9) rfl dX1_takePick_15 ?_
      refine lv_iload_n hx hb dX1_takePick_18 rfl (lv_at hl 1 rfl) ?_
      refine ux_iast hx hb hK hP hD hS 15 0 (Nat.lt_of_lt_of_le (Nat.le_of_ble_eq_true rfl : 15 < 182) (Nat.le_add_right _ _)) (fun _ => (cC_15 _ _ _ _ _)) rfl h dX1_takePick_19 (fun σ1 H locs h hP hD hS => ?_)
      refine lv_aload_n hx hb dX1_takePick_20 rfl (lv_at hl 0 rfl) ?_
      refine lv_dup hx hb dX1_takePick_21 rfl ?_
      refine ux_get (D := (dC, dI)) (ci := 1) (v := .int (σ1.1 14 2)) (C := RX1) (T := TX1) (M := 9) (fs := (oCH ad (σ1.1 14))) hx hb hts (fun _ h9 => List.mem_cons_of_mem _ (List.mem_append_right _ h9)) hown hK hP 14 (Nat.lt_of_lt_of_le (Nat.le_of_ble_eq_true rfl : 14 < 182) (Nat.le_add_right _ _)) (cC_14 _ _ _ _ _) rfl 2 (by decide) (hts (.fieldLink RX1 18 "SeatsRound$Choice" "pickCount" "I") (List.mem_of_getElem? (i := 1) rfl)) (fun _ h9 => h9) rfl dX1_takePick_22 ?_
      refine lv_iconst (v := 1) hx hb dX1_takePick_25 (by decide) ?_
      refine lv_iadd hx hb dX1_takePick_26 ?_
      refine ux_put (D := (dC, dI)) (ci := 1) (C := RX1) (T := TX1) (M := 9) (fs := (oCH ad (σ1.1 14))) hx hb hts (fun _ h9 => List.mem_cons_of_mem _ (List.mem_append_right _ h9)) tyX1 tyX1_ok nmX1 hown hK hP hD hS 14 (Nat.lt_of_lt_of_le (Nat.le_of_ble_eq_true rfl : 14 < 182) (Nat.le_add_right _ _)) (cC_14 _ _ _ _ _) rfl 2 (by decide) (hts (.fieldLink RX1 18 "SeatsRound$Choice" "pickCount" "I") (List.mem_of_getElem? (i := 1) rfl)) (fun _ h9 => h9) rfl (tyX1_ok 2 (by decide)) rfl rfl (Nat.le_of_ble_eq_true rfl) (oC_14_2 _ _ _ _ _ _) h dX1_takePick_27 (fun σ2 H locs h hP hD hS => ?_)
      refine lv_aload_n hx hb dX1_takePick_30 rfl (lv_at hl 0 rfl) ?_
      refine lv_dup hx hb dX1_takePick_31 rfl ?_
      refine ux_get (D := (dC, dI)) (ci := 1) (v := .int (σ2.1 14 6)) (C := RX1) (T := TX1) (M := 9) (fs := (oCH ad (σ2.1 14))) hx hb hts (fun _ h9 => List.mem_cons_of_mem _ (List.mem_append_right _ h9)) hown hK hP 14 (Nat.lt_of_lt_of_le (Nat.le_of_ble_eq_true rfl : 14 < 182) (Nat.le_add_right _ _)) (cC_14 _ _ _ _ _) rfl 6 (by decide) (hts (.fieldLink RX1 31 "SeatsRound$Choice" "pickBits" "I") (List.mem_of_getElem? (i := 3) rfl)) (fun _ h9 => h9) rfl dX1_takePick_32 ?_
      refine lv_iconst (v := 1) hx hb dX1_takePick_35 (by decide) ?_
      refine lv_iload_n hx hb dX1_takePick_36 rfl (lv_at hl 1 rfl) ?_
      refine lv_ishl hx hb dX1_takePick_37 ?_
      refine lv_ior hx hb dX1_takePick_38 ?_
      refine ux_put (D := (dC, dI)) (ci := 1) (C := RX1) (T := TX1) (M := 9) (fs := (oCH ad (σ2.1 14))) hx hb hts (fun _ h9 => List.mem_cons_of_mem _ (List.mem_append_right _ h9)) tyX1 tyX1_ok nmX1 hown hK hP hD hS 14 (Nat.lt_of_lt_of_le (Nat.le_of_ble_eq_true rfl : 14 < 182) (Nat.le_add_right _ _)) (cC_14 _ _ _ _ _) rfl 6 (by decide) (hts (.fieldLink RX1 31 "SeatsRound$Choice" "pickBits" "I") (List.mem_of_getElem? (i := 3) rfl)) (fun _ h9 => h9) rfl (tyX1_ok 6 (by decide)) rfl rfl (Nat.le_of_ble_eq_true rfl) (oC_14_6 _ _ _ _ _ _) h dX1_takePick_39 (fun σ3 H locs h hP hD hS => ?_)
      change W _ _ _ _ _ _ _ _ _ _ _ _ _ _ _ (F0 m 42 ls [])
      exact ux_vret hx hb hr h hP hD hS hlocks dX1_takePick_42
    · have h := cdN hcd h
      exact ux_vret hx hb hr h hP hD hS hlocks dX1_takePick_9
  intro H locs ls h hP hD hS hl
  exact w0 σ a1 H locs ls h hP hD hS (lv_sub hl [0, 1] rfl)

set_option maxHeartbeats 4000000 in
set_option maxRecDepth 100000 in
theorem tX11_placeBehind (l : Launch) (dC : Nat → ClassId) (dI : Nat → Nat → Nat) (cy : Nat → ClassId) (ad : Nat → Nat) (τ nb : Nat) (hτ : τ < nb) (σ : S2) (a0 : Int32) (sz : Nat) (r0 : Int32) (h : fX11_placeBehind τ σ a0 = some r0) : Met l yX11_placeBehind wsX11_placeBehind ({ frames := 1, cells := 0, slots := 0, locals := 23 }) (va_Pc [.int a0] (wPre (dC, dI) cy (wG (cC cy ad τ) ad (182 + 6 * nb) σ) sz)) (va_Qi (fun (r : Int32) (_ : Unit) => r = r0) (fun (_ : Unit) t => wAt (dC, dI) (va_A (wG (cC cy ad τ) ad (182 + 6 * nb) σ) sz) (wG (cC cy ad τ) ad (182 + 6 * nb) σ) t) (va_A (wG (cC cy ad τ) ad (182 + 6 * nb) σ) sz)) 0 0 (va_A (wG (cC cy ad τ) ad (182 + 6 * nb) σ) sz) := by
  refine Met.ofW (cc := cX11_placeBehind) (maxL := 1) (ret := (some .int)) (by decide) rfl ?_
  intro p e s m args below meth c s₁ B hml hv
  obtain ⟨rfl, hsz, hP, hK, hD0, hN⟩ := hv
  have hx := B.exec
  have hb := B.bytes
  have hr := B.returns
  have hts := atoms_spec (ws := wsX11_placeBehind) B.pre
  have hown : s.vm.findClass RX11 = some m.cls := findClass_of_methodNamed B.named
  have hlocks := B.notSynchronized
  subst hsz
  have hD := hD0.self (sz := s.heap.size)
  generalize hAe : va_A (wG (cC cy ad τ) ad (182 + 6 * nb) σ) s.heap.size = A at hD ⊢
  have hA : ∀ q : Nat, s.heap.size ≤ q → A q := fun q h => by rw [← hAe]; exact Or.inr h
  have hS : va_S A s.heap s.heap [] := va_S.rf
  have hl := lv_entry ([.int a0]) (n := 1) (Nat.le_of_ble_eq_true rfl)
  rw [lg_entry_eq]
  generalize (lg_sl ([.int a0]) ++ List.replicate (1 - (lg_sl ([.int a0])).length) Slot.unset).toArray = ls at hl ⊢
  have hl : lv_has ls 1 [(0, .int a0)] := hl
  unfold fX11_placeBehind at h
  clear hAe hD0
  suffices HH : ∀ (H : Heap) (locs : List Loc) (ls : Array Slot), fX11_placeBehind_0 τ σ a0 = some r0 → va_P (dC, dI) vwCl (wG (cC cy ad τ) ad (182 + 6 * nb) σ) H → va_D A (wG (cC cy ad τ) ad (182 + 6 * nb) σ) → va_S A s.heap H locs → lv_has ls 1 [(0, .int a0)] → W p l e (headSpec wsX11_placeBehind ({ frames := 1, cells := 0, slots := 0, locals := 23 })).room s m (#[.int a0]) below meth c H locs 0 0 (MQ below (va_Qi (fun (r : Int32) (_ : Unit) => r = r0) (fun (_ : Unit) t => wAt (dC, dI) A (wG (cC cy ad τ) ad (182 + 6 * nb) σ) t) A) (#[.int a0]) s 0 0 A) (F0 m 0 ls []) from HH s.heap [] ls h hP hD hS hl
  have w0 : ∀ (σ : S2) (x0 : Int32) (H : Heap) (locs : List Loc) (ls : Array Slot), fX11_placeBehind_0 τ σ x0 = some r0 → va_P (dC, dI) vwCl (wG (cC cy ad τ) ad (182 + 6 * nb) σ) H → va_D A (wG (cC cy ad τ) ad (182 + 6 * nb) σ) → va_S A s.heap H locs → lv_has ls 1 [(0, .int x0)] → W p l e (headSpec wsX11_placeBehind ({ frames := 1, cells := 0, slots := 0, locals := 23 })).room s m (#[.int a0]) below meth c H locs 0 0 (MQ below (va_Qi (fun (r : Int32) (_ : Unit) => r = r0) (fun (_ : Unit) t => wAt (dC, dI) A (wG (cC cy ad τ) ad (182 + 6 * nb) σ) t) A) (#[.int a0]) s 0 0 A) (F0 m 0 ls []) := by
    intro σ x0 H locs ls h hP hD hS hl
    unfold fX11_placeBehind_0 at h
    refine lv_iload_n hx hb dX11_placeBehind_0 rfl (lv_at hl 0 rfl) ?_
    refine lv_iconst (v := 1) hx hb dX11_placeBehind_1 (by decide) ?_
    refine lv_iadd hx hb dX11_placeBehind_2 ?_
    refine lv_sipush (v := 1000) hx hb dX11_placeBehind_3 (by decide) ?_
    refine lv_icmp_ge (tgt := 15) hx hb dX11_placeBehind_6 (by decide) (fun hcd => ?_) (fun hcd => ?_)
    · have h := cdP hcd h
      refine lv_iconst (v := 0) hx hb dX11_placeBehind_15 (by decide) ?_
      exact ux_iretP hx hb hr h hP hD hS hlocks dX11_placeBehind_16
    · have h := cdN hcd h
      refine lv_iload_n hx hb dX11_placeBehind_9 rfl (lv_at hl 0 rfl) ?_
      refine lv_iconst (v := 1) hx hb dX11_placeBehind_10 (by decide) ?_
      refine lv_iadd hx hb dX11_placeBehind_11 ?_
      refine lv_goto (tgt := 16) hx hb dX11_placeBehind_12 (by decide) ?_
      exact ux_iretP hx hb hr h hP hD hS hlocks dX11_placeBehind_16
  intro H locs ls h hP hD hS hl
  exact w0 σ a0 H locs ls h hP hD hS (lv_sub hl [0] rfl)

set_option maxHeartbeats 4000000 in
set_option maxRecDepth 100000 in
theorem tX1_pickFirstFrom (l : Launch) (dC : Nat → ClassId) (dI : Nat → Nat → Nat) (cy : Nat → ClassId) (ad : Nat → Nat) (τ nb : Nat) (hτ : τ < nb) (b1 : Nat) (hb1 : b1 < nb) (σ : S2) (a2 : Int32) (sz : Nat) (r0 : Unit) (σ9 : S2) (h : fX1_pickFirstFrom τ b1 σ a2 = some (r0, σ9)) : Met l yX1_pickFirstFrom wsX1_pickFirstFrom ({ frames := 2, cells := 0, slots := 0, locals := 44 }) (va_Pc [.ref (ad 14), .ref (ad (182 + 6 * b1)), .int a2] (wPre (dC, dI) cy (wG (cC cy ad τ) ad (182 + 6 * nb) σ) sz)) (va_Qv (fun (_ : Unit) => True) (fun (_ : Unit) t => wAt (dC, dI) (va_A (wG (cC cy ad τ) ad (182 + 6 * nb) σ) sz) (wG (cC cy ad τ) ad (182 + 6 * nb) σ9) t) (va_A (wG (cC cy ad τ) ad (182 + 6 * nb) σ) sz)) 0 0 (va_A (wG (cC cy ad τ) ad (182 + 6 * nb) σ) sz) := by
  refine Met.ofW (cc := cX1_pickFirstFrom) (maxL := 5) (ret := none) (by decide) rfl ?_
  intro p e s m args below meth c s₁ B hml hv
  obtain ⟨rfl, hsz, hP, hK, hD0, hN⟩ := hv
  have hx := B.exec
  have hb := B.bytes
  have hr := B.returns
  have hts := atoms_spec (ws := wsX1_pickFirstFrom) B.pre
  have hown : s.vm.findClass RX1 = some m.cls := findClass_of_methodNamed B.named
  have hlocks := B.notSynchronized
  subst hsz
  have hD := hD0.self (sz := s.heap.size)
  generalize hAe : va_A (wG (cC cy ad τ) ad (182 + 6 * nb) σ) s.heap.size = A at hD ⊢
  have hA : ∀ q : Nat, s.heap.size ≤ q → A q := fun q h => by rw [← hAe]; exact Or.inr h
  have hS : va_S A s.heap s.heap [] := va_S.rf
  have hl := lv_entry ([.ref (ad 14), .ref (ad (182 + 6 * b1)), .int a2]) (n := 5) (Nat.le_of_ble_eq_true rfl)
  rw [lg_entry_eq]
  generalize (lg_sl ([.ref (ad 14), .ref (ad (182 + 6 * b1)), .int a2]) ++ List.replicate (5 - (lg_sl ([.ref (ad 14), .ref (ad (182 + 6 * b1)), .int a2])).length) Slot.unset).toArray = ls at hl ⊢
  have hl : lv_has ls 5 [(0, .ref (ad 14)), (1, .ref (ad (182 + 6 * b1))), (2, .int a2)] := hl
  unfold fX1_pickFirstFrom at h
  clear hAe hD0
  suffices HH : ∀ (H : Heap) (locs : List Loc) (ls : Array Slot), fX1_pickFirstFrom_0 τ b1 σ a2 = some (r0, σ9) → va_P (dC, dI) vwCl (wG (cC cy ad τ) ad (182 + 6 * nb) σ) H → va_D A (wG (cC cy ad τ) ad (182 + 6 * nb) σ) → va_S A s.heap H locs → lv_has ls 5 [(0, .ref (ad 14)), (1, .ref (ad (182 + 6 * b1))), (2, .int a2)] → W p l e (headSpec wsX1_pickFirstFrom ({ frames := 2, cells := 0, slots := 0, locals := 44 })).room s m (#[.ref (ad 14), .ref (ad (182 + 6 * b1)), .int a2]) below meth c H locs 0 0 (MQ below (va_Qv (fun (_ : Unit) => True) (fun (_ : Unit) t => wAt (dC, dI) A (wG (cC cy ad τ) ad (182 + 6 * nb) σ9) t) A) (#[.ref (ad 14), .ref (ad (182 + 6 * b1)), .int a2]) s 0 0 A) (F0 m 0 ls []) from HH s.heap [] ls h hP hD hS hl
  have w5 : ∀ (n : Nat), ∀ (σ : S2) (x3 : Int32) (x4 : Int32) (H : Heap) (locs : List Loc) (ls : Array Slot), fX1_pickFirstFrom_5 τ b1 n σ x3 x4 = some (r0, σ9) → va_P (dC, dI) vwCl (wG (cC cy ad τ) ad (182 + 6 * nb) σ) H → va_D A (wG (cC cy ad τ) ad (182 + 6 * nb) σ) → va_S A s.heap H locs → lv_has ls 5 [(0, .ref (ad 14)), (1, .ref (ad (182 + 6 * b1))), (3, .int x3), (4, .int x4)] → W p l e (headSpec wsX1_pickFirstFrom ({ frames := 2, cells := 0, slots := 0, locals := 44 })).room s m (#[.ref (ad 14), .ref (ad (182 + 6 * b1)), .int a2]) below meth c H locs 0 0 (MQ below (va_Qv (fun (_ : Unit) => True) (fun (_ : Unit) t => wAt (dC, dI) A (wG (cC cy ad τ) ad (182 + 6 * nb) σ9) t) A) (#[.ref (ad 14), .ref (ad (182 + 6 * b1)), .int a2]) s 0 0 A) (F0 m 5 ls []) := by
    intro n
    induction n with
    | zero => intro σ x3 x4 H locs ls h; cases h
    | succ n ih =>
    intro σ x3 x4 H locs ls h hP hD hS hl
    unfold fX1_pickFirstFrom_5 at h
    refine lv_iload hx hb dX1_pickFirstFrom_5 (lv_at hl 3 rfl) ?_
    refine lv_aload_n hx hb dX1_pickFirstFrom_7 rfl (lv_at hl 1 rfl) ?_
    refine ux_get (D := (dC, dI)) (ci := 8) (v := .int (σ.1 (182 + 6 * b1) 5)) (C := RX8) (T := TX8) (M := 13) (fs := (oTB ad (182 + 6 * b1) (σ.1 (182 + 6 * b1)))) hx hb hts (fun _ h9 => List.mem_cons_of_mem _ (List.mem_append_left _ (List.mem_append_right _ h9))) hown hK hP (182 + 6 * b1) (by omega) (cC_t0 _ _ _ _ _ b1) rfl 5 (by decide) (hts (.fieldLink RX1 56 "SeatsRound$Table" "seats" "I") (List.mem_of_getElem? (i := 1) rfl)) (fun _ h9 => h9) rfl dX1_pickFirstFrom_8 ?_
    refine lv_icmp_ge (tgt := 56) hx hb dX1_pickFirstFrom_11 (by decide) (fun hcd => ?_) (fun hcd => ?_)
    · have h := cdP hcd h
      exact ux_vret hx hb hr h hP hD hS hlocks dX1_pickFirstFrom_56
    · have h := cdN hcd h
      refine lv_aload_n hx hb dX1_pickFirstFrom_14 rfl (lv_at hl 1 rfl) ?_
      refine ux_get (D := (dC, dI)) (ci := 8) (v := .ref (ad (182 + 6 * b1 + 5))) (C := RX8) (T := TX8) (M := 13) (fs := (oTB ad (182 + 6 * b1) (σ.1 (182 + 6 * b1)))) hx hb hts (fun _ h9 => List.mem_cons_of_mem _ (List.mem_append_left _ (List.mem_append_right _ h9))) hown hK hP (182 + 6 * b1) (by omega) (cC_t0 _ _ _ _ _ b1) rfl 12 (by decide) (hts (.fieldLink RX1 62 "SeatsRound$Table" "ahead" "[S") (List.mem_of_getElem? (i := 2) rfl)) (fun _ h9 => h9) rfl dX1_pickFirstFrom_15 ?_
      refine lv_iload_n hx hb dX1_pickFirstFrom_18 rfl (lv_at hl 2 rfl) ?_
      refine ux_sald hx hb hK hP (182 + 6 * b1 + 5) 3 (by omega) (cC_t5 _ _ _ _ _ b1) rfl h dX1_pickFirstFrom_19 (fun v1 h => ?_)
      refine lv_istore_n (lv' := [(3, .int v1), (0, .ref (ad 14)), (1, .ref (ad (182 + 6 * b1))), (4, .int x4)]) hx hb dX1_pickFirstFrom_20 rfl hl (by decide) rfl (fun ls hl => ?_)
      have hl := lv_sub hl [1, 2, 0, 3] (l' := [(0, .ref (ad 14)), (1, .ref (ad (182 + 6 * b1))), (3, .int v1), (4, .int x4)]) rfl
      refine lv_aload_n hx hb dX1_pickFirstFrom_21 rfl (lv_at hl 0 rfl) ?_
      refine lv_aload_n hx hb dX1_pickFirstFrom_22 rfl (lv_at hl 1 rfl) ?_
      refine ux_get (D := (dC, dI)) (ci := 8) (v := .ref (ad (182 + 6 * b1 + 4))) (C := RX8) (T := TX8) (M := 13) (fs := (oTB ad (182 + 6 * b1) (σ.1 (182 + 6 * b1)))) hx hb hts (fun _ h9 => List.mem_cons_of_mem _ (List.mem_append_left _ (List.mem_append_right _ h9))) hown hK hP (182 + 6 * b1) (by omega) (cC_t0 _ _ _ _ _ b1) rfl 11 (by decide) (hts (.fieldLink RX1 66 "SeatsRound$Table" "owner" "[B") (List.mem_of_getElem? (i := 3) rfl)) (fun _ h9 => h9) rfl dX1_pickFirstFrom_23 ?_
      refine lv_iload_n hx hb dX1_pickFirstFrom_26 rfl (lv_at hl 2 rfl) ?_
      refine ux_bald hx hb hK hP (182 + 6 * b1 + 4) 1 (by omega) (cC_t4 _ _ _ _ _ b1) rfl h dX1_pickFirstFrom_27 (fun v2 h => ?_)
      obtain ⟨r3, hf4, h⟩ := biS h
      refine ux_calli (va_runV (As := [.int v2]) (rest := []) ⟨hx, hb, hml, hown, hts⟩ (tX1_isPicked l dC dI cy ad τ nb hτ σ v2 H.size r3 hf4) (cwV 1 hts gX1_pickFirstFrom_X1_isPicked rfl rfl rfl (by decide +kernel) ⟨Nat.le_of_ble_eq_true rfl, Nat.le_of_ble_eq_true rfl⟩) (wp_V hK hN hP hD (va_recv hK hP (ci := 1) (q0 := 14) rfl (wG_of (Nat.lt_of_lt_of_le (Nat.le_of_ble_eq_true rfl : 14 < 182) (Nat.le_add_right _ _)) (cC_14 _ _ _ _ _)))) rfl rfl hl.1 rfl (lv_room (Nat.le_of_ble_eq_true rfl)) dX1_pickFirstFrom_28 ⟨Nat.le_of_ble_eq_true rfl, Nat.le_of_ble_eq_true rfl⟩) hD hS hA (fun H locs hP hD hS => ?_)
      refine lv_if_ne (tgt := 45) hx hb dX1_pickFirstFrom_31 (by decide) (fun hcd => ?_) (fun hcd => ?_)
      · have h := cdN hcd h
        refine lv_iload_n hx hb dX1_pickFirstFrom_45 rfl (lv_at hl 2 rfl) ?_
        obtain ⟨r5, hf6, h⟩ := biS h
        refine ux_calli (va_runSN (As := [.int v1]) (rest := []) ⟨hx, hb, hml, hown, hts⟩ (tX11_placeBehind l dC dI cy ad τ nb hτ σ v1 H.size r5 hf6) ⟨va_cnB 1 hts gX1_pickFirstFrom_X11_placeBehind_n78 rfl rfl rfl (hN.1 _ (List.mem_of_getElem? (i := 8) rfl)) (hts (.initialized RX11) (List.mem_of_getElem? (i := 17) rfl)) (by decide +kernel) ⟨Nat.le_of_ble_eq_true rfl, Nat.le_of_ble_eq_true rfl⟩, (hts (.static yX11_placeBehind) (List.mem_of_getElem? (i := 16) rfl)), trivial⟩ (wp_S hK hN hP hD) rfl rfl hl.1 rfl (lv_room (Nat.le_of_ble_eq_true rfl)) dX1_pickFirstFrom_46 ⟨Nat.le_of_ble_eq_true rfl, Nat.le_of_ble_eq_true rfl⟩) hD hS hA (fun H locs hP hD hS => ?_)
        refine lv_istore_n (lv' := [(3, .int r5), (0, .ref (ad 14)), (1, .ref (ad (182 + 6 * b1))), (4, .int x4)]) hx hb dX1_pickFirstFrom_49 rfl hl (by decide) rfl (fun ls hl => ?_)
        have hl := lv_sub hl [1, 2, 0, 3] (l' := [(0, .ref (ad 14)), (1, .ref (ad (182 + 6 * b1))), (3, .int r5), (4, .int x4)]) rfl
        obtain ⟨v7, ev7⟩ : ∃ y : Int32, y = x4 + 1 := ⟨_, rfl⟩
        have h := nmS h ev7
        refine lv_iinc (v := v7) (lv' := [(4, .int v7), (0, .ref (ad 14)), (1, .ref (ad (182 + 6 * b1))), (3, .int r5)]) hx hb dX1_pickFirstFrom_50 hl (k := 3) rfl (by rw [ev7]; rfl) (by decide) rfl (fun ls hl => ?_)
        have hl := lv_sub hl [1, 2, 3, 0] (l' := [(0, .ref (ad 14)), (1, .ref (ad (182 + 6 * b1))), (3, .int r5), (4, .int v7)]) rfl
        refine lv_goto (tgt := 5) hx hb dX1_pickFirstFrom_53 (by decide) ?_
        exact ih σ r5 v7 H locs ls h hP hD hS hl
      · have h := cdP hcd h
        refine lv_aload_n hx hb dX1_pickFirstFrom_34 rfl (lv_at hl 0 rfl) ?_
        refine lv_aload_n hx hb dX1_pickFirstFrom_35 rfl (lv_at hl 1 rfl) ?_
        refine ux_get (D := (dC, dI)) (ci := 8) (v := .ref (ad (182 + 6 * b1 + 4))) (C := RX8) (T := TX8) (M := 13) (fs := (oTB ad (182 + 6 * b1) (σ.1 (182 + 6 * b1)))) hx hb hts (fun _ h9 => List.mem_cons_of_mem _ (List.mem_append_left _ (List.mem_append_right _ h9))) hown hK hP (182 + 6 * b1) (by omega) (cC_t0 _ _ _ _ _ b1) rfl 11 (by decide) (hts (.fieldLink RX1 66 "SeatsRound$Table" "owner" "[B") (List.mem_of_getElem? (i := 3) rfl)) (fun _ h9 => h9) rfl dX1_pickFirstFrom_36 ?_
        refine lv_iload_n hx hb dX1_pickFirstFrom_39 rfl (lv_at hl 2 rfl) ?_
        refine ux_bald hx hb hK hP (182 + 6 * b1 + 4) 1 (by omega) (cC_t4 _ _ _ _ _ b1) rfl h dX1_pickFirstFrom_40 (fun v8 h => ?_)
        obtain ⟨r9, σ10, hf11, h⟩ := bsS h
        refine ux_callv (va_runV (As := [.int v8]) (rest := []) ⟨hx, hb, hml, hown, hts⟩ (tX1_takePick l dC dI cy ad τ nb hτ σ v8 H.size r9 σ10 hf11) (cwV 1 hts gX1_pickFirstFrom_X1_takePick rfl rfl rfl (by decide +kernel) ⟨Nat.le_of_ble_eq_true rfl, Nat.le_of_ble_eq_true rfl⟩) (wp_V hK hN hP hD (va_recv hK hP (ci := 1) (q0 := 14) rfl (wG_of (Nat.lt_of_lt_of_le (Nat.le_of_ble_eq_true rfl : 14 < 182) (Nat.le_add_right _ _)) (cC_14 _ _ _ _ _)))) rfl rfl hl.1 rfl (lv_room (Nat.le_of_ble_eq_true rfl)) dX1_pickFirstFrom_41 ⟨Nat.le_of_ble_eq_true rfl, Nat.le_of_ble_eq_true rfl⟩) hD hS hA (fun H locs hP hD hS => ?_)
        exact ux_vret hx hb hr h hP hD hS hlocks dX1_pickFirstFrom_44
  have w0 : ∀ (σ : S2) (x2 : Int32) (H : Heap) (locs : List Loc) (ls : Array Slot), fX1_pickFirstFrom_0 τ b1 σ x2 = some (r0, σ9) → va_P (dC, dI) vwCl (wG (cC cy ad τ) ad (182 + 6 * nb) σ) H → va_D A (wG (cC cy ad τ) ad (182 + 6 * nb) σ) → va_S A s.heap H locs → lv_has ls 5 [(0, .ref (ad 14)), (1, .ref (ad (182 + 6 * b1))), (2, .int x2)] → W p l e (headSpec wsX1_pickFirstFrom ({ frames := 2, cells := 0, slots := 0, locals := 44 })).room s m (#[.ref (ad 14), .ref (ad (182 + 6 * b1)), .int a2]) below meth c H locs 0 0 (MQ below (va_Qv (fun (_ : Unit) => True) (fun (_ : Unit) t => wAt (dC, dI) A (wG (cC cy ad τ) ad (182 + 6 * nb) σ9) t) A) (#[.ref (ad 14), .ref (ad (182 + 6 * b1)), .int a2]) s 0 0 A) (F0 m 0 ls []) := by
    intro σ x2 H locs ls h hP hD hS hl
    unfold fX1_pickFirstFrom_0 at h
    refine lv_iload_n hx hb dX1_pickFirstFrom_0 rfl (lv_at hl 2 rfl) ?_
    refine lv_istore_n (lv' := [(3, .int x2), (0, .ref (ad 14)), (1, .ref (ad (182 + 6 * b1))), (2, .int x2)]) hx hb dX1_pickFirstFrom_1 rfl hl (by decide) rfl (fun ls hl => ?_)
    have hl := lv_sub hl [1, 2, 3, 0] (l' := [(0, .ref (ad 14)), (1, .ref (ad (182 + 6 * b1))), (2, .int x2), (3, .int x2)]) rfl
    refine lv_iconst (v := 0) hx hb dX1_pickFirstFrom_2 (by decide) ?_
    refine lv_istore (lv' := [(4, .int 0), (0, .ref (ad 14)), (1, .ref (ad (182 + 6 * b1))), (2, .int x2), (3, .int x2)]) hx hb dX1_pickFirstFrom_3 hl (by decide) rfl (fun ls hl => ?_)
    have hl := lv_sub hl [1, 2, 3, 4, 0] (l' := [(0, .ref (ad 14)), (1, .ref (ad (182 + 6 * b1))), (2, .int x2), (3, .int x2), (4, .int 0)]) rfl
    exact w5 FU σ x2 0 H locs ls h hP hD hS (lv_sub hl [0, 1, 3, 4] rfl)
  intro H locs ls h hP hD hS hl
  exact w0 σ a2 H locs ls h hP hD hS (lv_sub hl [0, 1, 2] rfl)

set_option maxHeartbeats 4000000 in
set_option maxRecDepth 100000 in
theorem tX1_pickByJumps (l : Launch) (dC : Nat → ClassId) (dI : Nat → Nat → Nat) (cy : Nat → ClassId) (ad : Nat → Nat) (τ nb : Nat) (hτ : τ < nb) (b1 : Nat) (hb1 : b1 < nb) (σ : S2) (a2 : Int32) (sz : Nat) (r0 : Unit) (σ9 : S2) (h : fX1_pickByJumps τ b1 σ a2 = some (r0, σ9)) : Met l yX1_pickByJumps wsX1_pickByJumps ({ frames := 3, cells := 0, slots := 0, locals := 68 }) (va_Pc [.ref (ad 14), .ref (ad (182 + 6 * b1)), .int a2] (wPre (dC, dI) cy (wG (cC cy ad τ) ad (182 + 6 * nb) σ) sz)) (va_Qv (fun (_ : Unit) => True) (fun (_ : Unit) t => wAt (dC, dI) (va_A (wG (cC cy ad τ) ad (182 + 6 * nb) σ) sz) (wG (cC cy ad τ) ad (182 + 6 * nb) σ9) t) (va_A (wG (cC cy ad τ) ad (182 + 6 * nb) σ) sz)) 0 0 (va_A (wG (cC cy ad τ) ad (182 + 6 * nb) σ) sz) := by
  refine Met.ofW (cc := cX1_pickByJumps) (maxL := 4) (ret := none) (by decide) rfl ?_
  intro p e s m args below meth c s₁ B hml hv
  obtain ⟨rfl, hsz, hP, hK, hD0, hN⟩ := hv
  have hx := B.exec
  have hb := B.bytes
  have hr := B.returns
  have hts := atoms_spec (ws := wsX1_pickByJumps) B.pre
  have hown : s.vm.findClass RX1 = some m.cls := findClass_of_methodNamed B.named
  have hlocks := B.notSynchronized
  subst hsz
  have hD := hD0.self (sz := s.heap.size)
  generalize hAe : va_A (wG (cC cy ad τ) ad (182 + 6 * nb) σ) s.heap.size = A at hD ⊢
  have hA : ∀ q : Nat, s.heap.size ≤ q → A q := fun q h => by rw [← hAe]; exact Or.inr h
  have hS : va_S A s.heap s.heap [] := va_S.rf
  have hl := lv_entry ([.ref (ad 14), .ref (ad (182 + 6 * b1)), .int a2]) (n := 4) (Nat.le_of_ble_eq_true rfl)
  rw [lg_entry_eq]
  generalize (lg_sl ([.ref (ad 14), .ref (ad (182 + 6 * b1)), .int a2]) ++ List.replicate (4 - (lg_sl ([.ref (ad 14), .ref (ad (182 + 6 * b1)), .int a2])).length) Slot.unset).toArray = ls at hl ⊢
  have hl : lv_has ls 4 [(0, .ref (ad 14)), (1, .ref (ad (182 + 6 * b1))), (2, .int a2)] := hl
  unfold fX1_pickByJumps at h
  clear hAe hD0
  suffices HH : ∀ (H : Heap) (locs : List Loc) (ls : Array Slot), fX1_pickByJumps_0 τ b1 σ a2 = some (r0, σ9) → va_P (dC, dI) vwCl (wG (cC cy ad τ) ad (182 + 6 * nb) σ) H → va_D A (wG (cC cy ad τ) ad (182 + 6 * nb) σ) → va_S A s.heap H locs → lv_has ls 4 [(0, .ref (ad 14)), (1, .ref (ad (182 + 6 * b1))), (2, .int a2)] → W p l e (headSpec wsX1_pickByJumps ({ frames := 3, cells := 0, slots := 0, locals := 68 })).room s m (#[.ref (ad 14), .ref (ad (182 + 6 * b1)), .int a2]) below meth c H locs 0 0 (MQ below (va_Qv (fun (_ : Unit) => True) (fun (_ : Unit) t => wAt (dC, dI) A (wG (cC cy ad τ) ad (182 + 6 * nb) σ9) t) A) (#[.ref (ad 14), .ref (ad (182 + 6 * b1)), .int a2]) s 0 0 A) (F0 m 0 ls []) from HH s.heap [] ls h hP hD hS hl
  have w2 : ∀ (n : Nat), ∀ (σ : S2) (x2 : Int32) (x3 : Int32) (H : Heap) (locs : List Loc) (ls : Array Slot), fX1_pickByJumps_2 τ b1 n σ x2 x3 = some (r0, σ9) → va_P (dC, dI) vwCl (wG (cC cy ad τ) ad (182 + 6 * nb) σ) H → va_D A (wG (cC cy ad τ) ad (182 + 6 * nb) σ) → va_S A s.heap H locs → lv_has ls 4 [(0, .ref (ad 14)), (1, .ref (ad (182 + 6 * b1))), (2, .int x2), (3, .int x3)] → W p l e (headSpec wsX1_pickByJumps ({ frames := 3, cells := 0, slots := 0, locals := 68 })).room s m (#[.ref (ad 14), .ref (ad (182 + 6 * b1)), .int a2]) below meth c H locs 0 0 (MQ below (va_Qv (fun (_ : Unit) => True) (fun (_ : Unit) t => wAt (dC, dI) A (wG (cC cy ad τ) ad (182 + 6 * nb) σ9) t) A) (#[.ref (ad 14), .ref (ad (182 + 6 * b1)), .int a2]) s 0 0 A) (F0 m 2 ls []) := by
    intro n
    induction n with
    | zero => intro σ x2 x3 H locs ls h; cases h
    | succ n ih =>
    intro σ x2 x3 H locs ls h hP hD hS hl
    unfold fX1_pickByJumps_2 at h
    refine lv_iload_n hx hb dX1_pickByJumps_2 rfl (lv_at hl 3 rfl) ?_
    refine lv_bipush (v := 12) hx hb dX1_pickByJumps_3 (by decide) ?_
    refine lv_icmp_ge (tgt := 41) hx hb dX1_pickByJumps_5 (by decide) (fun hcd => ?_) (fun hcd => ?_)
    · have h := cdP hcd h
      exact ux_vret hx hb hr h hP hD hS hlocks dX1_pickByJumps_41
    · have h := cdN hcd h
      refine lv_aload_n hx hb dX1_pickByJumps_8 rfl (lv_at hl 0 rfl) ?_
      refine ux_get (D := (dC, dI)) (ci := 1) (v := .int (σ.1 14 6)) (C := RX1) (T := TX1) (M := 9) (fs := (oCH ad (σ.1 14))) hx hb hts (fun _ h9 => List.mem_cons_of_mem _ (List.mem_append_left _ (List.mem_append_right _ h9))) hown hK hP 14 (Nat.lt_of_lt_of_le (Nat.le_of_ble_eq_true rfl : 14 < 182) (Nat.le_add_right _ _)) (cC_14 _ _ _ _ _) rfl 6 (by decide) (hts (.fieldLink RX1 31 "SeatsRound$Choice" "pickBits" "I") (List.mem_of_getElem? (i := 1) rfl)) (fun _ h9 => h9) rfl dX1_pickByJumps_9 ?_
      refine lv_aload_n hx hb dX1_pickByJumps_12 rfl (lv_at hl 1 rfl) ?_
      refine ux_get (D := (dC, dI)) (ci := 8) (v := .int (σ.1 (182 + 6 * b1) 0)) (C := RX8) (T := TX8) (M := 13) (fs := (oTB ad (182 + 6 * b1) (σ.1 (182 + 6 * b1)))) hx hb hts (fun _ h9 => List.mem_cons_of_mem _ (List.mem_append_right _ h9)) hown hK hP (182 + 6 * b1) (by omega) (cC_t0 _ _ _ _ _ b1) rfl 0 (by decide) (hts (.fieldLink RX1 59 "SeatsRound$Table" "members" "I") (List.mem_of_getElem? (i := 2) rfl)) (fun _ h9 => h9) rfl dX1_pickByJumps_13 ?_
      refine lv_icmp_eq (tgt := 41) hx hb dX1_pickByJumps_16 (by decide) (fun hcd => ?_) (fun hcd => ?_)
      · have h := cdP hcd h
        exact ux_vret hx hb hr h hP hD hS hlocks dX1_pickByJumps_41
      · have h := cdN hcd h
        refine lv_aload_n hx hb dX1_pickByJumps_19 rfl (lv_at hl 0 rfl) ?_
        refine lv_aload_n hx hb dX1_pickByJumps_20 rfl (lv_at hl 1 rfl) ?_
        refine lv_iload_n hx hb dX1_pickByJumps_21 rfl (lv_at hl 2 rfl) ?_
        refine lv_sipush (v := 333) hx hb dX1_pickByJumps_22 (by decide) ?_
        refine lv_iload_n hx hb dX1_pickByJumps_25 rfl (lv_at hl 3 rfl) ?_
        refine lv_imul hx hb dX1_pickByJumps_26 ?_
        refine lv_iadd hx hb dX1_pickByJumps_27 ?_
        refine lv_sipush (v := 1000) hx hb dX1_pickByJumps_28 (by decide) ?_
        change W _ _ _ _ _ _ _ _ _ _ _ _ _ _ _ (F0 m 31 ls [.int 1000, .int (x2 + (333 * x3)), .ref (ad (182 + 6 * b1)), .ref (ad 14)])
        obtain ⟨hz1, h⟩ := dzS h
        refine lv_irem hx hb dX1_pickByJumps_31 hz1 ?_
        obtain ⟨r2, σ3, hf4, h⟩ := bsS h
        refine ux_callv (va_runV (As := [.ref (ad (182 + 6 * b1)), .int ((x2 + (333 * x3)) - (x2 + (333 * x3)) / 1000 * 1000)]) (rest := []) ⟨hx, hb, hml, hown, hts⟩ (tX1_pickFirstFrom l dC dI cy ad τ nb hτ b1 (by omega) σ ((x2 + (333 * x3)) - (x2 + (333 * x3)) / 1000 * 1000) H.size r2 σ3 hf4) (cwV 2 hts gX1_pickByJumps_X1_pickFirstFrom rfl rfl rfl (by decide +kernel) ⟨Nat.le_of_ble_eq_true rfl, Nat.le_of_ble_eq_true rfl⟩) (wp_V hK hN hP hD (va_recv hK hP (ci := 1) (q0 := 14) rfl (wG_of (Nat.lt_of_lt_of_le (Nat.le_of_ble_eq_true rfl : 14 < 182) (Nat.le_add_right _ _)) (cC_14 _ _ _ _ _)))) rfl rfl hl.1 rfl (lv_room (Nat.le_of_ble_eq_true rfl)) dX1_pickByJumps_32 ⟨Nat.le_of_ble_eq_true rfl, Nat.le_of_ble_eq_true rfl⟩) hD hS hA (fun H locs hP hD hS => ?_)
        obtain ⟨v5, ev5⟩ : ∃ y : Int32, y = x3 + 1 := ⟨_, rfl⟩
        have h := nmS h ev5
        refine lv_iinc (v := v5) (lv' := [(3, .int v5), (0, .ref (ad 14)), (1, .ref (ad (182 + 6 * b1))), (2, .int x2)]) hx hb dX1_pickByJumps_35 hl (k := 3) rfl (by rw [ev5]; rfl) (by decide) rfl (fun ls hl => ?_)
        have hl := lv_sub hl [1, 2, 3, 0] (l' := [(0, .ref (ad 14)), (1, .ref (ad (182 + 6 * b1))), (2, .int x2), (3, .int v5)]) rfl
        refine lv_goto (tgt := 2) hx hb dX1_pickByJumps_38 (by decide) ?_
        exact ih σ3 x2 v5 H locs ls h hP hD hS hl
  have w0 : ∀ (σ : S2) (x2 : Int32) (H : Heap) (locs : List Loc) (ls : Array Slot), fX1_pickByJumps_0 τ b1 σ x2 = some (r0, σ9) → va_P (dC, dI) vwCl (wG (cC cy ad τ) ad (182 + 6 * nb) σ) H → va_D A (wG (cC cy ad τ) ad (182 + 6 * nb) σ) → va_S A s.heap H locs → lv_has ls 4 [(0, .ref (ad 14)), (1, .ref (ad (182 + 6 * b1))), (2, .int x2)] → W p l e (headSpec wsX1_pickByJumps ({ frames := 3, cells := 0, slots := 0, locals := 68 })).room s m (#[.ref (ad 14), .ref (ad (182 + 6 * b1)), .int a2]) below meth c H locs 0 0 (MQ below (va_Qv (fun (_ : Unit) => True) (fun (_ : Unit) t => wAt (dC, dI) A (wG (cC cy ad τ) ad (182 + 6 * nb) σ9) t) A) (#[.ref (ad 14), .ref (ad (182 + 6 * b1)), .int a2]) s 0 0 A) (F0 m 0 ls []) := by
    intro σ x2 H locs ls h hP hD hS hl
    unfold fX1_pickByJumps_0 at h
    refine lv_iconst (v := 0) hx hb dX1_pickByJumps_0 (by decide) ?_
    refine lv_istore_n (lv' := [(3, .int 0), (0, .ref (ad 14)), (1, .ref (ad (182 + 6 * b1))), (2, .int x2)]) hx hb dX1_pickByJumps_1 rfl hl (by decide) rfl (fun ls hl => ?_)
    have hl := lv_sub hl [1, 2, 3, 0] (l' := [(0, .ref (ad 14)), (1, .ref (ad (182 + 6 * b1))), (2, .int x2), (3, .int 0)]) rfl
    exact w2 FU σ x2 0 H locs ls h hP hD hS hl
  intro H locs ls h hP hD hS hl
  exact w0 σ a2 H locs ls h hP hD hS (lv_sub hl [0, 1, 2] rfl)

set_option maxHeartbeats 4000000 in
set_option maxRecDepth 100000 in
theorem tX1_pickRound (l : Launch) (dC : Nat → ClassId) (dI : Nat → Nat → Nat) (cy : Nat → ClassId) (ad : Nat → Nat) (τ nb : Nat) (hτ : τ < nb) (b1 : Nat) (hb1 : b1 < nb) (σ : S2) (a2 : Int32) (sz : Nat) (r0 : Unit) (σ9 : S2) (h : fX1_pickRound τ b1 σ a2 = some (r0, σ9)) : Met l yX1_pickRound wsX1_pickRound ({ frames := 2, cells := 0, slots := 0, locals := 44 }) (va_Pc [.ref (ad 14), .ref (ad (182 + 6 * b1)), .int a2] (wPre (dC, dI) cy (wG (cC cy ad τ) ad (182 + 6 * nb) σ) sz)) (va_Qv (fun (_ : Unit) => True) (fun (_ : Unit) t => wAt (dC, dI) (va_A (wG (cC cy ad τ) ad (182 + 6 * nb) σ) sz) (wG (cC cy ad τ) ad (182 + 6 * nb) σ9) t) (va_A (wG (cC cy ad τ) ad (182 + 6 * nb) σ) sz)) 0 0 (va_A (wG (cC cy ad τ) ad (182 + 6 * nb) σ) sz) := by
  refine Met.ofW (cc := cX1_pickRound) (maxL := 5) (ret := none) (by decide) rfl ?_
  intro p e s m args below meth c s₁ B hml hv
  obtain ⟨rfl, hsz, hP, hK, hD0, hN⟩ := hv
  have hx := B.exec
  have hb := B.bytes
  have hr := B.returns
  have hts := atoms_spec (ws := wsX1_pickRound) B.pre
  have hown : s.vm.findClass RX1 = some m.cls := findClass_of_methodNamed B.named
  have hlocks := B.notSynchronized
  subst hsz
  have hD := hD0.self (sz := s.heap.size)
  generalize hAe : va_A (wG (cC cy ad τ) ad (182 + 6 * nb) σ) s.heap.size = A at hD ⊢
  have hA : ∀ q : Nat, s.heap.size ≤ q → A q := fun q h => by rw [← hAe]; exact Or.inr h
  have hS : va_S A s.heap s.heap [] := va_S.rf
  have hl := lv_entry ([.ref (ad 14), .ref (ad (182 + 6 * b1)), .int a2]) (n := 5) (Nat.le_of_ble_eq_true rfl)
  rw [lg_entry_eq]
  generalize (lg_sl ([.ref (ad 14), .ref (ad (182 + 6 * b1)), .int a2]) ++ List.replicate (5 - (lg_sl ([.ref (ad 14), .ref (ad (182 + 6 * b1)), .int a2])).length) Slot.unset).toArray = ls at hl ⊢
  have hl : lv_has ls 5 [(0, .ref (ad 14)), (1, .ref (ad (182 + 6 * b1))), (2, .int a2)] := hl
  unfold fX1_pickRound at h
  clear hAe hD0
  suffices HH : ∀ (H : Heap) (locs : List Loc) (ls : Array Slot), fX1_pickRound_0 τ b1 σ a2 = some (r0, σ9) → va_P (dC, dI) vwCl (wG (cC cy ad τ) ad (182 + 6 * nb) σ) H → va_D A (wG (cC cy ad τ) ad (182 + 6 * nb) σ) → va_S A s.heap H locs → lv_has ls 5 [(0, .ref (ad 14)), (1, .ref (ad (182 + 6 * b1))), (2, .int a2)] → W p l e (headSpec wsX1_pickRound ({ frames := 2, cells := 0, slots := 0, locals := 44 })).room s m (#[.ref (ad 14), .ref (ad (182 + 6 * b1)), .int a2]) below meth c H locs 0 0 (MQ below (va_Qv (fun (_ : Unit) => True) (fun (_ : Unit) t => wAt (dC, dI) A (wG (cC cy ad τ) ad (182 + 6 * nb) σ9) t) A) (#[.ref (ad 14), .ref (ad (182 + 6 * b1)), .int a2]) s 0 0 A) (F0 m 0 ls []) from HH s.heap [] ls h hP hD hS hl
  have w55 : ∀ (k5 : S2 → Int32 → Int32 → Option (Unit × S2)) (hk5 : ∀ (σ : S2) (x3 : Int32) (x4 : Int32) (H : Heap) (locs : List Loc) (ls : Array Slot), k5 σ x3 x4 = some (r0, σ9) → va_P (dC, dI) vwCl (wG (cC cy ad τ) ad (182 + 6 * nb) σ) H → va_D A (wG (cC cy ad τ) ad (182 + 6 * nb) σ) → va_S A s.heap H locs → lv_has ls 5 [(0, .ref (ad 14)), (1, .ref (ad (182 + 6 * b1))), (3, .int x3), (4, .int x4)] → W p l e (headSpec wsX1_pickRound ({ frames := 2, cells := 0, slots := 0, locals := 44 })).room s m (#[.ref (ad 14), .ref (ad (182 + 6 * b1)), .int a2]) below meth c H locs 0 0 (MQ below (va_Qv (fun (_ : Unit) => True) (fun (_ : Unit) t => wAt (dC, dI) A (wG (cC cy ad τ) ad (182 + 6 * nb) σ9) t) A) (#[.ref (ad 14), .ref (ad (182 + 6 * b1)), .int a2]) s 0 0 A) (F0 m 5 ls [])) , ∀ (σ : S2) (x3 : Int32) (x4 : Int32) (H : Heap) (locs : List Loc) (ls : Array Slot), fX1_pickRound_55 τ b1 k5 σ x3 x4 = some (r0, σ9) → va_P (dC, dI) vwCl (wG (cC cy ad τ) ad (182 + 6 * nb) σ) H → va_D A (wG (cC cy ad τ) ad (182 + 6 * nb) σ) → va_S A s.heap H locs → lv_has ls 5 [(0, .ref (ad 14)), (1, .ref (ad (182 + 6 * b1))), (3, .int x3), (4, .int x4)] → W p l e (headSpec wsX1_pickRound ({ frames := 2, cells := 0, slots := 0, locals := 44 })).room s m (#[.ref (ad 14), .ref (ad (182 + 6 * b1)), .int a2]) below meth c H locs 0 0 (MQ below (va_Qv (fun (_ : Unit) => True) (fun (_ : Unit) t => wAt (dC, dI) A (wG (cC cy ad τ) ad (182 + 6 * nb) σ9) t) A) (#[.ref (ad 14), .ref (ad (182 + 6 * b1)), .int a2]) s 0 0 A) (F0 m 55 ls []) := by
    intro k5 hk5 σ x3 x4 H locs ls h hP hD hS hl
    unfold fX1_pickRound_55 at h
    refine lv_iload_n hx hb dX1_pickRound_55 rfl (lv_at hl 2 rfl) ?_
    obtain ⟨r1, hf2, h⟩ := biS h
    refine ux_calli (va_runSN (As := [.int x3]) (rest := []) ⟨hx, hb, hml, hown, hts⟩ (tX11_placeBehind l dC dI cy ad τ nb hτ σ x3 H.size r1 hf2) ⟨va_cnB 1 hts gX1_pickRound_X11_placeBehind_n78 rfl rfl rfl (hN.1 _ (List.mem_of_getElem? (i := 8) rfl)) (hts (.initialized RX11) (List.mem_of_getElem? (i := 18) rfl)) (by decide +kernel) ⟨Nat.le_of_ble_eq_true rfl, Nat.le_of_ble_eq_true rfl⟩, (hts (.static yX11_placeBehind) (List.mem_of_getElem? (i := 17) rfl)), trivial⟩ (wp_S hK hN hP hD) rfl rfl hl.1 rfl (lv_room (Nat.le_of_ble_eq_true rfl)) dX1_pickRound_56 ⟨Nat.le_of_ble_eq_true rfl, Nat.le_of_ble_eq_true rfl⟩) hD hS hA (fun H locs hP hD hS => ?_)
    refine lv_istore_n (lv' := [(3, .int r1), (0, .ref (ad 14)), (1, .ref (ad (182 + 6 * b1))), (4, .int x4)]) hx hb dX1_pickRound_59 rfl hl (by decide) rfl (fun ls hl => ?_)
    have hl := lv_sub hl [1, 2, 0, 3] (l' := [(0, .ref (ad 14)), (1, .ref (ad (182 + 6 * b1))), (3, .int r1), (4, .int x4)]) rfl
    obtain ⟨v3, ev3⟩ : ∃ y : Int32, y = x4 + 1 := ⟨_, rfl⟩
    have h := nmS h ev3
    refine lv_iinc (v := v3) (lv' := [(4, .int v3), (0, .ref (ad 14)), (1, .ref (ad (182 + 6 * b1))), (3, .int r1)]) hx hb dX1_pickRound_60 hl (k := 3) rfl (by rw [ev3]; rfl) (by decide) rfl (fun ls hl => ?_)
    have hl := lv_sub hl [1, 2, 3, 0] (l' := [(0, .ref (ad 14)), (1, .ref (ad (182 + 6 * b1))), (3, .int r1), (4, .int v3)]) rfl
    refine lv_goto (tgt := 5) hx hb dX1_pickRound_63 (by decide) ?_
    exact hk5 σ r1 v3 H locs ls h hP hD hS hl
  have w5 : ∀ (n : Nat), ∀ (σ : S2) (x3 : Int32) (x4 : Int32) (H : Heap) (locs : List Loc) (ls : Array Slot), fX1_pickRound_5 τ b1 n σ x3 x4 = some (r0, σ9) → va_P (dC, dI) vwCl (wG (cC cy ad τ) ad (182 + 6 * nb) σ) H → va_D A (wG (cC cy ad τ) ad (182 + 6 * nb) σ) → va_S A s.heap H locs → lv_has ls 5 [(0, .ref (ad 14)), (1, .ref (ad (182 + 6 * b1))), (3, .int x3), (4, .int x4)] → W p l e (headSpec wsX1_pickRound ({ frames := 2, cells := 0, slots := 0, locals := 44 })).room s m (#[.ref (ad 14), .ref (ad (182 + 6 * b1)), .int a2]) below meth c H locs 0 0 (MQ below (va_Qv (fun (_ : Unit) => True) (fun (_ : Unit) t => wAt (dC, dI) A (wG (cC cy ad τ) ad (182 + 6 * nb) σ9) t) A) (#[.ref (ad 14), .ref (ad (182 + 6 * b1)), .int a2]) s 0 0 A) (F0 m 5 ls []) := by
    intro n
    induction n with
    | zero => intro σ x3 x4 H locs ls h; cases h
    | succ n ih =>
    intro σ x3 x4 H locs ls h hP hD hS hl
    unfold fX1_pickRound_5 at h
    refine lv_iload hx hb dX1_pickRound_5 (lv_at hl 3 rfl) ?_
    refine lv_aload_n hx hb dX1_pickRound_7 rfl (lv_at hl 1 rfl) ?_
    refine ux_get (D := (dC, dI)) (ci := 8) (v := .int (σ.1 (182 + 6 * b1) 5)) (C := RX8) (T := TX8) (M := 13) (fs := (oTB ad (182 + 6 * b1) (σ.1 (182 + 6 * b1)))) hx hb hts (fun _ h9 => List.mem_cons_of_mem _ (List.mem_append_left _ (List.mem_append_right _ h9))) hown hK hP (182 + 6 * b1) (by omega) (cC_t0 _ _ _ _ _ b1) rfl 5 (by decide) (hts (.fieldLink RX1 56 "SeatsRound$Table" "seats" "I") (List.mem_of_getElem? (i := 1) rfl)) (fun _ h9 => h9) rfl dX1_pickRound_8 ?_
    refine lv_icmp_ge (tgt := 66) hx hb dX1_pickRound_11 (by decide) (fun hcd => ?_) (fun hcd => ?_)
    · have h := cdP hcd h
      exact ux_vret hx hb hr h hP hD hS hlocks dX1_pickRound_66
    · have h := cdN hcd h
      refine lv_aload_n hx hb dX1_pickRound_14 rfl (lv_at hl 0 rfl) ?_
      refine ux_get (D := (dC, dI)) (ci := 1) (v := .int (σ.1 14 6)) (C := RX1) (T := TX1) (M := 9) (fs := (oCH ad (σ.1 14))) hx hb hts (fun _ h9 => List.mem_cons_of_mem _ (List.mem_append_right _ h9)) hown hK hP 14 (Nat.lt_of_lt_of_le (Nat.le_of_ble_eq_true rfl : 14 < 182) (Nat.le_add_right _ _)) (cC_14 _ _ _ _ _) rfl 6 (by decide) (hts (.fieldLink RX1 31 "SeatsRound$Choice" "pickBits" "I") (List.mem_of_getElem? (i := 2) rfl)) (fun _ h9 => h9) rfl dX1_pickRound_15 ?_
      refine lv_aload_n hx hb dX1_pickRound_18 rfl (lv_at hl 1 rfl) ?_
      refine ux_get (D := (dC, dI)) (ci := 8) (v := .int (σ.1 (182 + 6 * b1) 0)) (C := RX8) (T := TX8) (M := 13) (fs := (oTB ad (182 + 6 * b1) (σ.1 (182 + 6 * b1)))) hx hb hts (fun _ h9 => List.mem_cons_of_mem _ (List.mem_append_left _ (List.mem_append_right _ h9))) hown hK hP (182 + 6 * b1) (by omega) (cC_t0 _ _ _ _ _ b1) rfl 0 (by decide) (hts (.fieldLink RX1 59 "SeatsRound$Table" "members" "I") (List.mem_of_getElem? (i := 3) rfl)) (fun _ h9 => h9) rfl dX1_pickRound_19 ?_
      refine lv_icmp_eq (tgt := 66) hx hb dX1_pickRound_22 (by decide) (fun hcd => ?_) (fun hcd => ?_)
      · have h := cdP hcd h
        exact ux_vret hx hb hr h hP hD hS hlocks dX1_pickRound_66
      · have h := cdN hcd h
        refine lv_aload_n hx hb dX1_pickRound_25 rfl (lv_at hl 1 rfl) ?_
        refine ux_get (D := (dC, dI)) (ci := 8) (v := .ref (ad (182 + 6 * b1 + 5))) (C := RX8) (T := TX8) (M := 13) (fs := (oTB ad (182 + 6 * b1) (σ.1 (182 + 6 * b1)))) hx hb hts (fun _ h9 => List.mem_cons_of_mem _ (List.mem_append_left _ (List.mem_append_right _ h9))) hown hK hP (182 + 6 * b1) (by omega) (cC_t0 _ _ _ _ _ b1) rfl 12 (by decide) (hts (.fieldLink RX1 62 "SeatsRound$Table" "ahead" "[S") (List.mem_of_getElem? (i := 4) rfl)) (fun _ h9 => h9) rfl dX1_pickRound_26 ?_
        refine lv_iload_n hx hb dX1_pickRound_29 rfl (lv_at hl 2 rfl) ?_
        refine ux_sald hx hb hK hP (182 + 6 * b1 + 5) 3 (by omega) (cC_t5 _ _ _ _ _ b1) rfl h dX1_pickRound_30 (fun v4 h => ?_)
        refine lv_istore_n (lv' := [(3, .int v4), (0, .ref (ad 14)), (1, .ref (ad (182 + 6 * b1))), (4, .int x4)]) hx hb dX1_pickRound_31 rfl hl (by decide) rfl (fun ls hl => ?_)
        have hl := lv_sub hl [1, 2, 0, 3] (l' := [(0, .ref (ad 14)), (1, .ref (ad (182 + 6 * b1))), (3, .int v4), (4, .int x4)]) rfl
        refine lv_aload_n hx hb dX1_pickRound_32 rfl (lv_at hl 0 rfl) ?_
        refine lv_aload_n hx hb dX1_pickRound_33 rfl (lv_at hl 1 rfl) ?_
        refine ux_get (D := (dC, dI)) (ci := 8) (v := .ref (ad (182 + 6 * b1 + 4))) (C := RX8) (T := TX8) (M := 13) (fs := (oTB ad (182 + 6 * b1) (σ.1 (182 + 6 * b1)))) hx hb hts (fun _ h9 => List.mem_cons_of_mem _ (List.mem_append_left _ (List.mem_append_right _ h9))) hown hK hP (182 + 6 * b1) (by omega) (cC_t0 _ _ _ _ _ b1) rfl 11 (by decide) (hts (.fieldLink RX1 66 "SeatsRound$Table" "owner" "[B") (List.mem_of_getElem? (i := 5) rfl)) (fun _ h9 => h9) rfl dX1_pickRound_34 ?_
        refine lv_iload_n hx hb dX1_pickRound_37 rfl (lv_at hl 2 rfl) ?_
        refine ux_bald hx hb hK hP (182 + 6 * b1 + 4) 1 (by omega) (cC_t4 _ _ _ _ _ b1) rfl h dX1_pickRound_38 (fun v5 h => ?_)
        obtain ⟨r6, hf7, h⟩ := biS h
        refine ux_calli (va_runV (As := [.int v5]) (rest := []) ⟨hx, hb, hml, hown, hts⟩ (tX1_isPicked l dC dI cy ad τ nb hτ σ v5 H.size r6 hf7) (cwV 1 hts gX1_pickRound_X1_isPicked rfl rfl rfl (by decide +kernel) ⟨Nat.le_of_ble_eq_true rfl, Nat.le_of_ble_eq_true rfl⟩) (wp_V hK hN hP hD (va_recv hK hP (ci := 1) (q0 := 14) rfl (wG_of (Nat.lt_of_lt_of_le (Nat.le_of_ble_eq_true rfl : 14 < 182) (Nat.le_add_right _ _)) (cC_14 _ _ _ _ _)))) rfl rfl hl.1 rfl (lv_room (Nat.le_of_ble_eq_true rfl)) dX1_pickRound_39 ⟨Nat.le_of_ble_eq_true rfl, Nat.le_of_ble_eq_true rfl⟩) hD hS hA (fun H locs hP hD hS => ?_)
        refine lv_if_ne (tgt := 55) hx hb dX1_pickRound_42 (by decide) (fun hcd => ?_) (fun hcd => ?_)
        · have h := cdN hcd h
          exact w55 _ ih σ v4 x4 H locs ls h hP hD hS hl
        · have h := cdP hcd h
          refine lv_aload_n hx hb dX1_pickRound_45 rfl (lv_at hl 0 rfl) ?_
          refine lv_aload_n hx hb dX1_pickRound_46 rfl (lv_at hl 1 rfl) ?_
          refine ux_get (D := (dC, dI)) (ci := 8) (v := .ref (ad (182 + 6 * b1 + 4))) (C := RX8) (T := TX8) (M := 13) (fs := (oTB ad (182 + 6 * b1) (σ.1 (182 + 6 * b1)))) hx hb hts (fun _ h9 => List.mem_cons_of_mem _ (List.mem_append_left _ (List.mem_append_right _ h9))) hown hK hP (182 + 6 * b1) (by omega) (cC_t0 _ _ _ _ _ b1) rfl 11 (by decide) (hts (.fieldLink RX1 66 "SeatsRound$Table" "owner" "[B") (List.mem_of_getElem? (i := 5) rfl)) (fun _ h9 => h9) rfl dX1_pickRound_47 ?_
          refine lv_iload_n hx hb dX1_pickRound_50 rfl (lv_at hl 2 rfl) ?_
          refine ux_bald hx hb hK hP (182 + 6 * b1 + 4) 1 (by omega) (cC_t4 _ _ _ _ _ b1) rfl h dX1_pickRound_51 (fun v8 h => ?_)
          obtain ⟨r9, σ10, hf11, h⟩ := bsS h
          refine ux_callv (va_runV (As := [.int v8]) (rest := []) ⟨hx, hb, hml, hown, hts⟩ (tX1_takePick l dC dI cy ad τ nb hτ σ v8 H.size r9 σ10 hf11) (cwV 1 hts gX1_pickRound_X1_takePick rfl rfl rfl (by decide +kernel) ⟨Nat.le_of_ble_eq_true rfl, Nat.le_of_ble_eq_true rfl⟩) (wp_V hK hN hP hD (va_recv hK hP (ci := 1) (q0 := 14) rfl (wG_of (Nat.lt_of_lt_of_le (Nat.le_of_ble_eq_true rfl : 14 < 182) (Nat.le_add_right _ _)) (cC_14 _ _ _ _ _)))) rfl rfl hl.1 rfl (lv_room (Nat.le_of_ble_eq_true rfl)) dX1_pickRound_52 ⟨Nat.le_of_ble_eq_true rfl, Nat.le_of_ble_eq_true rfl⟩) hD hS hA (fun H locs hP hD hS => ?_)
          exact w55 _ ih σ10 v4 x4 H locs ls h hP hD hS hl
  have w0 : ∀ (σ : S2) (x2 : Int32) (H : Heap) (locs : List Loc) (ls : Array Slot), fX1_pickRound_0 τ b1 σ x2 = some (r0, σ9) → va_P (dC, dI) vwCl (wG (cC cy ad τ) ad (182 + 6 * nb) σ) H → va_D A (wG (cC cy ad τ) ad (182 + 6 * nb) σ) → va_S A s.heap H locs → lv_has ls 5 [(0, .ref (ad 14)), (1, .ref (ad (182 + 6 * b1))), (2, .int x2)] → W p l e (headSpec wsX1_pickRound ({ frames := 2, cells := 0, slots := 0, locals := 44 })).room s m (#[.ref (ad 14), .ref (ad (182 + 6 * b1)), .int a2]) below meth c H locs 0 0 (MQ below (va_Qv (fun (_ : Unit) => True) (fun (_ : Unit) t => wAt (dC, dI) A (wG (cC cy ad τ) ad (182 + 6 * nb) σ9) t) A) (#[.ref (ad 14), .ref (ad (182 + 6 * b1)), .int a2]) s 0 0 A) (F0 m 0 ls []) := by
    intro σ x2 H locs ls h hP hD hS hl
    unfold fX1_pickRound_0 at h
    refine lv_iload_n hx hb dX1_pickRound_0 rfl (lv_at hl 2 rfl) ?_
    refine lv_istore_n (lv' := [(3, .int x2), (0, .ref (ad 14)), (1, .ref (ad (182 + 6 * b1))), (2, .int x2)]) hx hb dX1_pickRound_1 rfl hl (by decide) rfl (fun ls hl => ?_)
    have hl := lv_sub hl [1, 2, 3, 0] (l' := [(0, .ref (ad 14)), (1, .ref (ad (182 + 6 * b1))), (2, .int x2), (3, .int x2)]) rfl
    refine lv_iconst (v := 0) hx hb dX1_pickRound_2 (by decide) ?_
    refine lv_istore (lv' := [(4, .int 0), (0, .ref (ad 14)), (1, .ref (ad (182 + 6 * b1))), (2, .int x2), (3, .int x2)]) hx hb dX1_pickRound_3 hl (by decide) rfl (fun ls hl => ?_)
    have hl := lv_sub hl [1, 2, 3, 4, 0] (l' := [(0, .ref (ad 14)), (1, .ref (ad (182 + 6 * b1))), (2, .int x2), (3, .int x2), (4, .int 0)]) rfl
    exact w5 FU σ x2 0 H locs ls h hP hD hS (lv_sub hl [0, 1, 3, 4] rfl)
  intro H locs ls h hP hD hS hl
  exact w0 σ a2 H locs ls h hP hD hS (lv_sub hl [0, 1, 2] rfl)

set_option maxHeartbeats 4000000 in
set_option maxRecDepth 100000 in
theorem tX1_pick (l : Launch) (dC : Nat → ClassId) (dI : Nat → Nat → Nat) (cy : Nat → ClassId) (ad : Nat → Nat) (τ nb : Nat) (hτ : τ < nb) (b1 : Nat) (hb1 : b1 < nb) (σ : S2) (a2 : Int32) (sz : Nat) (r0 : Unit) (σ9 : S2) (h : fX1_pick τ b1 σ a2 = some (r0, σ9)) : Met l yX1_pick wsX1_pick ({ frames := 4, cells := 0, slots := 0, locals := 91 }) (va_Pc [.ref (ad 14), .ref (ad (182 + 6 * b1)), .int a2] (wPre (dC, dI) cy (wG (cC cy ad τ) ad (182 + 6 * nb) σ) sz)) (va_Qv (fun (_ : Unit) => True) (fun (_ : Unit) t => wAt (dC, dI) (va_A (wG (cC cy ad τ) ad (182 + 6 * nb) σ) sz) (wG (cC cy ad τ) ad (182 + 6 * nb) σ9) t) (va_A (wG (cC cy ad τ) ad (182 + 6 * nb) σ) sz)) 0 0 (va_A (wG (cC cy ad τ) ad (182 + 6 * nb) σ) sz) := by
  refine Met.ofW (cc := cX1_pick) (maxL := 3) (ret := none) (by decide) rfl ?_
  intro p e s m args below meth c s₁ B hml hv
  obtain ⟨rfl, hsz, hP, hK, hD0, hN⟩ := hv
  have hx := B.exec
  have hb := B.bytes
  have hr := B.returns
  have hts := atoms_spec (ws := wsX1_pick) B.pre
  have hown : s.vm.findClass RX1 = some m.cls := findClass_of_methodNamed B.named
  have hlocks := B.notSynchronized
  subst hsz
  have hD := hD0.self (sz := s.heap.size)
  generalize hAe : va_A (wG (cC cy ad τ) ad (182 + 6 * nb) σ) s.heap.size = A at hD ⊢
  have hA : ∀ q : Nat, s.heap.size ≤ q → A q := fun q h => by rw [← hAe]; exact Or.inr h
  have hS : va_S A s.heap s.heap [] := va_S.rf
  have hl := lv_entry ([.ref (ad 14), .ref (ad (182 + 6 * b1)), .int a2]) (n := 3) (Nat.le_of_ble_eq_true rfl)
  rw [lg_entry_eq]
  generalize (lg_sl ([.ref (ad 14), .ref (ad (182 + 6 * b1)), .int a2]) ++ List.replicate (3 - (lg_sl ([.ref (ad 14), .ref (ad (182 + 6 * b1)), .int a2])).length) Slot.unset).toArray = ls at hl ⊢
  have hl : lv_has ls 3 [(0, .ref (ad 14)), (1, .ref (ad (182 + 6 * b1))), (2, .int a2)] := hl
  unfold fX1_pick at h
  clear hAe hD0
  suffices HH : ∀ (H : Heap) (locs : List Loc) (ls : Array Slot), fX1_pick_0 τ b1 σ a2 = some (r0, σ9) → va_P (dC, dI) vwCl (wG (cC cy ad τ) ad (182 + 6 * nb) σ) H → va_D A (wG (cC cy ad τ) ad (182 + 6 * nb) σ) → va_S A s.heap H locs → lv_has ls 3 [(0, .ref (ad 14)), (1, .ref (ad (182 + 6 * b1))), (2, .int a2)] → W p l e (headSpec wsX1_pick ({ frames := 4, cells := 0, slots := 0, locals := 91 })).room s m (#[.ref (ad 14), .ref (ad (182 + 6 * b1)), .int a2]) below meth c H locs 0 0 (MQ below (va_Qv (fun (_ : Unit) => True) (fun (_ : Unit) t => wAt (dC, dI) A (wG (cC cy ad τ) ad (182 + 6 * nb) σ9) t) A) (#[.ref (ad 14), .ref (ad (182 + 6 * b1)), .int a2]) s 0 0 A) (F0 m 0 ls []) from HH s.heap [] ls h hP hD hS hl
  have w0 : ∀ (σ : S2) (x2 : Int32) (H : Heap) (locs : List Loc) (ls : Array Slot), fX1_pick_0 τ b1 σ x2 = some (r0, σ9) → va_P (dC, dI) vwCl (wG (cC cy ad τ) ad (182 + 6 * nb) σ) H → va_D A (wG (cC cy ad τ) ad (182 + 6 * nb) σ) → va_S A s.heap H locs → lv_has ls 3 [(0, .ref (ad 14)), (1, .ref (ad (182 + 6 * b1))), (2, .int x2)] → W p l e (headSpec wsX1_pick ({ frames := 4, cells := 0, slots := 0, locals := 91 })).room s m (#[.ref (ad 14), .ref (ad (182 + 6 * b1)), .int a2]) below meth c H locs 0 0 (MQ below (va_Qv (fun (_ : Unit) => True) (fun (_ : Unit) t => wAt (dC, dI) A (wG (cC cy ad τ) ad (182 + 6 * nb) σ9) t) A) (#[.ref (ad 14), .ref (ad (182 + 6 * b1)), .int a2]) s 0 0 A) (F0 m 0 ls []) := by
    intro σ x2 H locs ls h hP hD hS hl
    unfold fX1_pick_0 at h
    refine lv_aload_n hx hb dX1_pick_0 rfl (lv_at hl 0 rfl) ?_
    refine lv_iconst (v := 0) hx hb dX1_pick_1 (by decide) ?_
    refine ux_put (D := (dC, dI)) (ci := 1) (C := RX1) (T := TX1) (M := 9) (fs := (oCH ad (σ.1 14))) hx hb hts (fun _ h9 => List.mem_cons_of_mem _ (List.mem_append_left _ (List.mem_append_right _ h9))) tyX1 tyX1_ok nmX1 hown hK hP hD hS 14 (Nat.lt_of_lt_of_le (Nat.le_of_ble_eq_true rfl : 14 < 182) (Nat.le_add_right _ _)) (cC_14 _ _ _ _ _) rfl 2 (by decide) (hts (.fieldLink RX1 18 "SeatsRound$Choice" "pickCount" "I") (List.mem_of_getElem? (i := 1) rfl)) (fun _ h9 => h9) rfl (tyX1_ok 2 (by decide)) rfl rfl (Nat.le_of_ble_eq_true rfl) (oC_14_2 _ _ _ _ _ _) h dX1_pick_2 (fun σ1 H locs h hP hD hS => ?_)
    refine lv_aload_n hx hb dX1_pick_5 rfl (lv_at hl 0 rfl) ?_
    refine lv_iconst (v := 0) hx hb dX1_pick_6 (by decide) ?_
    refine ux_put (D := (dC, dI)) (ci := 1) (C := RX1) (T := TX1) (M := 9) (fs := (oCH ad (σ1.1 14))) hx hb hts (fun _ h9 => List.mem_cons_of_mem _ (List.mem_append_left _ (List.mem_append_right _ h9))) tyX1 tyX1_ok nmX1 hown hK hP hD hS 14 (Nat.lt_of_lt_of_le (Nat.le_of_ble_eq_true rfl : 14 < 182) (Nat.le_add_right _ _)) (cC_14 _ _ _ _ _) rfl 6 (by decide) (hts (.fieldLink RX1 31 "SeatsRound$Choice" "pickBits" "I") (List.mem_of_getElem? (i := 2) rfl)) (fun _ h9 => h9) rfl (tyX1_ok 6 (by decide)) rfl rfl (Nat.le_of_ble_eq_true rfl) (oC_14_6 _ _ _ _ _ _) h dX1_pick_7 (fun σ2 H locs h hP hD hS => ?_)
    refine lv_aload_n hx hb dX1_pick_10 rfl (lv_at hl 1 rfl) ?_
    refine ux_get (D := (dC, dI)) (ci := 8) (v := .int (σ2.1 (182 + 6 * b1) 4)) (C := RX8) (T := TX8) (M := 13) (fs := (oTB ad (182 + 6 * b1) (σ2.1 (182 + 6 * b1)))) hx hb hts (fun _ h9 => List.mem_cons_of_mem _ (List.mem_append_right _ h9)) hown hK hP (182 + 6 * b1) (by omega) (cC_t0 _ _ _ _ _ b1) rfl 4 (by decide) (hts (.fieldLink RX1 41 "SeatsRound$Table" "way" "I") (List.mem_of_getElem? (i := 3) rfl)) (fun _ h9 => h9) rfl dX1_pick_11 ?_
    refine lv_iconst (v := 1) hx hb dX1_pick_14 (by decide) ?_
    refine lv_icmp_ne (tgt := 27) hx hb dX1_pick_15 (by decide) (fun hcd => ?_) (fun hcd => ?_)
    · have h := cdN hcd h
      refine lv_aload_n hx hb dX1_pick_27 rfl (lv_at hl 1 rfl) ?_
      refine ux_get (D := (dC, dI)) (ci := 8) (v := .int (σ2.1 (182 + 6 * b1) 4)) (C := RX8) (T := TX8) (M := 13) (fs := (oTB ad (182 + 6 * b1) (σ2.1 (182 + 6 * b1)))) hx hb hts (fun _ h9 => List.mem_cons_of_mem _ (List.mem_append_right _ h9)) hown hK hP (182 + 6 * b1) (by omega) (cC_t0 _ _ _ _ _ b1) rfl 4 (by decide) (hts (.fieldLink RX1 41 "SeatsRound$Table" "way" "I") (List.mem_of_getElem? (i := 3) rfl)) (fun _ h9 => h9) rfl dX1_pick_28 ?_
      refine lv_iconst (v := 2) hx hb dX1_pick_31 (by decide) ?_
      refine lv_icmp_ne (tgt := 44) hx hb dX1_pick_32 (by decide) (fun hcd => ?_) (fun hcd => ?_)
      · have h := cdN hcd h
        refine lv_aload_n hx hb dX1_pick_44 rfl (lv_at hl 0 rfl) ?_
        refine lv_aload_n hx hb dX1_pick_45 rfl (lv_at hl 1 rfl) ?_
        refine lv_iload_n hx hb dX1_pick_46 rfl (lv_at hl 2 rfl) ?_
        obtain ⟨r3, σ4, hf5, h⟩ := bsS h
        refine ux_callv (va_runV (As := [.ref (ad (182 + 6 * b1)), .int x2]) (rest := []) ⟨hx, hb, hml, hown, hts⟩ (tX1_pickRound l dC dI cy ad τ nb hτ b1 (by omega) σ2 x2 H.size r3 σ4 hf5) (cwV 2 hts gX1_pick_X1_pickRound rfl rfl rfl (by decide +kernel) ⟨Nat.le_of_ble_eq_true rfl, Nat.le_of_ble_eq_true rfl⟩) (wp_V hK hN hP hD (va_recv hK hP (ci := 1) (q0 := 14) rfl (wG_of (Nat.lt_of_lt_of_le (Nat.le_of_ble_eq_true rfl : 14 < 182) (Nat.le_add_right _ _)) (cC_14 _ _ _ _ _)))) rfl rfl hl.1 rfl (lv_room (Nat.le_of_ble_eq_true rfl)) dX1_pick_47 ⟨Nat.le_of_ble_eq_true rfl, Nat.le_of_ble_eq_true rfl⟩) hD hS hA (fun H locs hP hD hS => ?_)
        exact ux_vret hx hb hr h hP hD hS hlocks dX1_pick_50
      · have h := cdP hcd h
        refine lv_aload_n hx hb dX1_pick_35 rfl (lv_at hl 0 rfl) ?_
        refine lv_aload_n hx hb dX1_pick_36 rfl (lv_at hl 1 rfl) ?_
        refine lv_iload_n hx hb dX1_pick_37 rfl (lv_at hl 2 rfl) ?_
        obtain ⟨r6, σ7, hf8, h⟩ := bsS h
        refine ux_callv (va_runV (As := [.ref (ad (182 + 6 * b1)), .int x2]) (rest := []) ⟨hx, hb, hml, hown, hts⟩ (tX1_pickByJumps l dC dI cy ad τ nb hτ b1 (by omega) σ2 x2 H.size r6 σ7 hf8) (cwV 2 hts gX1_pick_X1_pickByJumps rfl rfl rfl (by decide +kernel) ⟨Nat.le_of_ble_eq_true rfl, Nat.le_of_ble_eq_true rfl⟩) (wp_V hK hN hP hD (va_recv hK hP (ci := 1) (q0 := 14) rfl (wG_of (Nat.lt_of_lt_of_le (Nat.le_of_ble_eq_true rfl : 14 < 182) (Nat.le_add_right _ _)) (cC_14 _ _ _ _ _)))) rfl rfl hl.1 rfl (lv_room (Nat.le_of_ble_eq_true rfl)) dX1_pick_38 ⟨Nat.le_of_ble_eq_true rfl, Nat.le_of_ble_eq_true rfl⟩) hD hS hA (fun H locs hP hD hS => ?_)
        refine lv_goto (tgt := 50) hx hb dX1_pick_41 (by decide) ?_
        exact ux_vret hx hb hr h hP hD hS hlocks dX1_pick_50
    · have h := cdP hcd h
      refine lv_aload_n hx hb dX1_pick_18 rfl (lv_at hl 0 rfl) ?_
      refine lv_aload_n hx hb dX1_pick_19 rfl (lv_at hl 1 rfl) ?_
      refine lv_iload_n hx hb dX1_pick_20 rfl (lv_at hl 2 rfl) ?_
      obtain ⟨r9, σ10, hf11, h⟩ := bsS h
      refine ux_callv (va_runV (As := [.ref (ad (182 + 6 * b1)), .int x2]) (rest := []) ⟨hx, hb, hml, hown, hts⟩ (tX1_pickBySums l dC dI cy ad τ nb hτ b1 (by omega) σ2 x2 H.size r9 σ10 hf11) (cwV 2 hts gX1_pick_X1_pickBySums rfl rfl rfl (by decide +kernel) ⟨Nat.le_of_ble_eq_true rfl, Nat.le_of_ble_eq_true rfl⟩) (wp_V hK hN hP hD (va_recv hK hP (ci := 1) (q0 := 14) rfl (wG_of (Nat.lt_of_lt_of_le (Nat.le_of_ble_eq_true rfl : 14 < 182) (Nat.le_add_right _ _)) (cC_14 _ _ _ _ _)))) rfl rfl hl.1 rfl (lv_room (Nat.le_of_ble_eq_true rfl)) dX1_pick_21 ⟨Nat.le_of_ble_eq_true rfl, Nat.le_of_ble_eq_true rfl⟩) hD hS hA (fun H locs hP hD hS => ?_)
      refine lv_goto (tgt := 50) hx hb dX1_pick_24 (by decide) ?_
      exact ux_vret hx hb hr h hP hD hS hlocks dX1_pick_50
  intro H locs ls h hP hD hS hl
  exact w0 σ a2 H locs ls h hP hD hS (lv_sub hl [0, 1, 2] rfl)

set_option maxHeartbeats 4000000 in
set_option maxRecDepth 100000 in
theorem tX1_takeChosen (l : Launch) (dC : Nat → ClassId) (dI : Nat → Nat → Nat) (cy : Nat → ClassId) (ad : Nat → Nat) (τ nb : Nat) (hτ : τ < nb) (σ : S2) (a1 : Int32) (sz : Nat) (r0 : Unit) (σ9 : S2) (h : fX1_takeChosen τ σ a1 = some (r0, σ9)) : Met l yX1_takeChosen wsX1_takeChosen ({ frames := 1, cells := 0, slots := 0, locals := 23 }) (va_Pc [.ref (ad 14), .int a1] (wPre (dC, dI) cy (wG (cC cy ad τ) ad (182 + 6 * nb) σ) sz)) (va_Qv (fun (_ : Unit) => True) (fun (_ : Unit) t => wAt (dC, dI) (va_A (wG (cC cy ad τ) ad (182 + 6 * nb) σ) sz) (wG (cC cy ad τ) ad (182 + 6 * nb) σ9) t) (va_A (wG (cC cy ad τ) ad (182 + 6 * nb) σ) sz)) 0 0 (va_A (wG (cC cy ad τ) ad (182 + 6 * nb) σ) sz) := by
  refine Met.ofW (cc := cX1_takeChosen) (maxL := 2) (ret := none) (by decide) rfl ?_
  intro p e s m args below meth c s₁ B hml hv
  obtain ⟨rfl, hsz, hP, hK, hD0, hN⟩ := hv
  have hx := B.exec
  have hb := B.bytes
  have hr := B.returns
  have hts := atoms_spec (ws := wsX1_takeChosen) B.pre
  have hown : s.vm.findClass RX1 = some m.cls := findClass_of_methodNamed B.named
  have hlocks := B.notSynchronized
  subst hsz
  have hD := hD0.self (sz := s.heap.size)
  generalize hAe : va_A (wG (cC cy ad τ) ad (182 + 6 * nb) σ) s.heap.size = A at hD ⊢
  have hA : ∀ q : Nat, s.heap.size ≤ q → A q := fun q h => by rw [← hAe]; exact Or.inr h
  have hS : va_S A s.heap s.heap [] := va_S.rf
  have hl := lv_entry ([.ref (ad 14), .int a1]) (n := 2) (Nat.le_of_ble_eq_true rfl)
  rw [lg_entry_eq]
  generalize (lg_sl ([.ref (ad 14), .int a1]) ++ List.replicate (2 - (lg_sl ([.ref (ad 14), .int a1])).length) Slot.unset).toArray = ls at hl ⊢
  have hl : lv_has ls 2 [(0, .ref (ad 14)), (1, .int a1)] := hl
  unfold fX1_takeChosen at h
  clear hAe hD0
  suffices HH : ∀ (H : Heap) (locs : List Loc) (ls : Array Slot), fX1_takeChosen_0 τ σ a1 = some (r0, σ9) → va_P (dC, dI) vwCl (wG (cC cy ad τ) ad (182 + 6 * nb) σ) H → va_D A (wG (cC cy ad τ) ad (182 + 6 * nb) σ) → va_S A s.heap H locs → lv_has ls 2 [(0, .ref (ad 14)), (1, .int a1)] → W p l e (headSpec wsX1_takeChosen ({ frames := 1, cells := 0, slots := 0, locals := 23 })).room s m (#[.ref (ad 14), .int a1]) below meth c H locs 0 0 (MQ below (va_Qv (fun (_ : Unit) => True) (fun (_ : Unit) t => wAt (dC, dI) A (wG (cC cy ad τ) ad (182 + 6 * nb) σ9) t) A) (#[.ref (ad 14), .int a1]) s 0 0 A) (F0 m 0 ls []) from HH s.heap [] ls h hP hD hS hl
  have w0 : ∀ (σ : S2) (x1 : Int32) (H : Heap) (locs : List Loc) (ls : Array Slot), fX1_takeChosen_0 τ σ x1 = some (r0, σ9) → va_P (dC, dI) vwCl (wG (cC cy ad τ) ad (182 + 6 * nb) σ) H → va_D A (wG (cC cy ad τ) ad (182 + 6 * nb) σ) → va_S A s.heap H locs → lv_has ls 2 [(0, .ref (ad 14)), (1, .int x1)] → W p l e (headSpec wsX1_takeChosen ({ frames := 1, cells := 0, slots := 0, locals := 23 })).room s m (#[.ref (ad 14), .int a1]) below meth c H locs 0 0 (MQ below (va_Qv (fun (_ : Unit) => True) (fun (_ : Unit) t => wAt (dC, dI) A (wG (cC cy ad τ) ad (182 + 6 * nb) σ9) t) A) (#[.ref (ad 14), .int a1]) s 0 0 A) (F0 m 0 ls []) := by
    intro σ x1 H locs ls h hP hD hS hl
    unfold fX1_takeChosen_0 at h
    refine lv_aload_n hx hb dX1_takeChosen_0 rfl (lv_at hl 0 rfl) ?_
    refine ux_get (D := (dC, dI)) (ci := 1) (v := .ref (ad 16)) (C := RX1) (T := TX1) (M := 9) (fs := (oCH ad (σ.1 14))) hx hb hts (fun _ h9 => List.mem_cons_of_mem _ (List.mem_append_left _ (List.mem_append_right _ h9))) hown hK hP 14 (Nat.lt_of_lt_of_le (Nat.le_of_ble_eq_true rfl : 14 < 182) (Nat.le_add_right _ _)) (cC_14 _ _ _ _ _) rfl 1 (by decide) (hts (.fieldLink RX1 15 "SeatsRound$Choice" "chosen" "[I") (List.mem_of_getElem? (i := 1) rfl)) (fun _ h9 => h9) rfl dX1_takeChosen_1 ?_
    refine lv_aload_n hx hb dX1_takeChosen_4 rfl (lv_at hl 0 rfl) ?_
    refine ux_get (D := (dC, dI)) (ci := 1) (v := .int (σ.1 14 3)) (C := RX1) (T := TX1) (M := 9) (fs := (oCH ad (σ.1 14))) hx hb hts (fun _ h9 => List.mem_cons_of_mem _ (List.mem_append_left _ (List.mem_append_right _ h9))) hown hK hP 14 (Nat.lt_of_lt_of_le (Nat.le_of_ble_eq_true rfl : 14 < 182) (Nat.le_add_right _ _)) (cC_14 _ _ _ _ _) rfl 3 (by decide) (hts (.fieldLink RX1 22 "SeatsRound$Choice" "chosenCount" "I") (List.mem_of_getElem? (i := 2) rfl)) (fun _ h9 => h9) rfl dX1_takeChosen_5 ?_
    refine lv_iload_n hx hb dX1_takeChosen_8 rfl (lv_at hl 1 rfl) ?_
    refine ux_iast hx hb hK hP hD hS 16 0 (Nat.lt_of_lt_of_le (Nat.le_of_ble_eq_true rfl : 16 < 182) (Nat.le_add_right _ _)) (fun _ => (cC_16 _ _ _ _ _)) rfl h dX1_takeChosen_9 (fun σ1 H locs h hP hD hS => ?_)
    refine lv_aload_n hx hb dX1_takeChosen_10 rfl (lv_at hl 0 rfl) ?_
    refine lv_dup hx hb dX1_takeChosen_11 rfl ?_
    refine ux_get (D := (dC, dI)) (ci := 1) (v := .int (σ1.1 14 3)) (C := RX1) (T := TX1) (M := 9) (fs := (oCH ad (σ1.1 14))) hx hb hts (fun _ h9 => List.mem_cons_of_mem _ (List.mem_append_left _ (List.mem_append_right _ h9))) hown hK hP 14 (Nat.lt_of_lt_of_le (Nat.le_of_ble_eq_true rfl : 14 < 182) (Nat.le_add_right _ _)) (cC_14 _ _ _ _ _) rfl 3 (by decide) (hts (.fieldLink RX1 22 "SeatsRound$Choice" "chosenCount" "I") (List.mem_of_getElem? (i := 2) rfl)) (fun _ h9 => h9) rfl dX1_takeChosen_12 ?_
    refine lv_iconst (v := 1) hx hb dX1_takeChosen_15 (by decide) ?_
    refine lv_iadd hx hb dX1_takeChosen_16 ?_
    refine ux_put (D := (dC, dI)) (ci := 1) (C := RX1) (T := TX1) (M := 9) (fs := (oCH ad (σ1.1 14))) hx hb hts (fun _ h9 => List.mem_cons_of_mem _ (List.mem_append_left _ (List.mem_append_right _ h9))) tyX1 tyX1_ok nmX1 hown hK hP hD hS 14 (Nat.lt_of_lt_of_le (Nat.le_of_ble_eq_true rfl : 14 < 182) (Nat.le_add_right _ _)) (cC_14 _ _ _ _ _) rfl 3 (by decide) (hts (.fieldLink RX1 22 "SeatsRound$Choice" "chosenCount" "I") (List.mem_of_getElem? (i := 2) rfl)) (fun _ h9 => h9) rfl (tyX1_ok 3 (by decide)) rfl rfl (Nat.le_of_ble_eq_true rfl) (oC_14_3 _ _ _ _ _ _) h dX1_takeChosen_17 (fun σ2 H locs h hP hD hS => ?_)
    refine lv_aload_n hx hb dX1_takeChosen_20 rfl (lv_at hl 0 rfl) ?_
    refine lv_dup hx hb dX1_takeChosen_21 rfl ?_
    refine ux_get (D := (dC, dI)) (ci := 1) (v := .int (σ2.1 14 4)) (C := RX1) (T := TX1) (M := 9) (fs := (oCH ad (σ2.1 14))) hx hb hts (fun _ h9 => List.mem_cons_of_mem _ (List.mem_append_left _ (List.mem_append_right _ h9))) hown hK hP 14 (Nat.lt_of_lt_of_le (Nat.le_of_ble_eq_true rfl : 14 < 182) (Nat.le_add_right _ _)) (cC_14 _ _ _ _ _) rfl 4 (by decide) (hts (.fieldLink RX1 25 "SeatsRound$Choice" "chosenBits" "I") (List.mem_of_getElem? (i := 3) rfl)) (fun _ h9 => h9) rfl dX1_takeChosen_22 ?_
    refine lv_iconst (v := 1) hx hb dX1_takeChosen_25 (by decide) ?_
    refine lv_iload_n hx hb dX1_takeChosen_26 rfl (lv_at hl 1 rfl) ?_
    refine lv_ishl hx hb dX1_takeChosen_27 ?_
    refine lv_ior hx hb dX1_takeChosen_28 ?_
    refine ux_put (D := (dC, dI)) (ci := 1) (C := RX1) (T := TX1) (M := 9) (fs := (oCH ad (σ2.1 14))) hx hb hts (fun _ h9 => List.mem_cons_of_mem _ (List.mem_append_left _ (List.mem_append_right _ h9))) tyX1 tyX1_ok nmX1 hown hK hP hD hS 14 (Nat.lt_of_lt_of_le (Nat.le_of_ble_eq_true rfl : 14 < 182) (Nat.le_add_right _ _)) (cC_14 _ _ _ _ _) rfl 4 (by decide) (hts (.fieldLink RX1 25 "SeatsRound$Choice" "chosenBits" "I") (List.mem_of_getElem? (i := 3) rfl)) (fun _ h9 => h9) rfl (tyX1_ok 4 (by decide)) rfl rfl (Nat.le_of_ble_eq_true rfl) (oC_14_4 _ _ _ _ _ _) h dX1_takeChosen_29 (fun σ3 H locs h hP hD hS => ?_)
    change W _ _ _ _ _ _ _ _ _ _ _ _ _ _ _ (F0 m 32 ls [])
    refine lv_aload_n hx hb dX1_takeChosen_32 rfl (lv_at hl 0 rfl) ?_
    refine lv_dup hx hb dX1_takeChosen_33 rfl ?_
    refine ux_get (D := (dC, dI)) (ci := 1) (v := .int (σ3.1 14 5)) (C := RX1) (T := TX1) (M := 9) (fs := (oCH ad (σ3.1 14))) hx hb hts (fun _ h9 => List.mem_cons_of_mem _ (List.mem_append_left _ (List.mem_append_right _ h9))) hown hK hP 14 (Nat.lt_of_lt_of_le (Nat.le_of_ble_eq_true rfl : 14 < 182) (Nat.le_add_right _ _)) (cC_14 _ _ _ _ _) rfl 5 (by decide) (hts (.fieldLink RX1 28 "SeatsRound$Choice" "streetBits" "I") (List.mem_of_getElem? (i := 4) rfl)) (fun _ h9 => h9) rfl dX1_takeChosen_34 ?_
    refine lv_iconst (v := 1) hx hb dX1_takeChosen_37 (by decide) ?_
    refine lv_aload_n hx hb dX1_takeChosen_38 rfl (lv_at hl 0 rfl) ?_
    refine ux_get (D := (dC, dI)) (ci := 1) (v := .ref (ad 7)) (C := RX1) (T := TX1) (M := 9) (fs := (oCH ad (σ3.1 14))) hx hb hts (fun _ h9 => List.mem_cons_of_mem _ (List.mem_append_left _ (List.mem_append_right _ h9))) hown hK hP 14 (Nat.lt_of_lt_of_le (Nat.le_of_ble_eq_true rfl : 14 < 182) (Nat.le_add_right _ _)) (cC_14 _ _ _ _ _) rfl 8 (by decide) (hts (.fieldLink RX1 37 "SeatsRound$Choice" "keepers" "LSeatsRound$Keepers;") (List.mem_of_getElem? (i := 5) rfl)) (fun _ h9 => h9) rfl dX1_takeChosen_39 ?_
    refine ux_get (D := (dC, dI)) (ci := 2) (v := .ref (ad 9)) (C := RX2) (T := TX2) (M := 6) (fs := (oKP ad (σ3.1 7))) hx hb hts (fun _ h9 => List.mem_cons_of_mem _ (List.mem_append_right _ h9)) hown hK hP 7 (Nat.lt_of_lt_of_le (Nat.le_of_ble_eq_true rfl : 7 < 182) (Nat.le_add_right _ _)) (cC_7 _ _ _ _ _) rfl 1 (by decide) (hts (.fieldLink RX1 103 "SeatsRound$Keepers" "street" "[I") (List.mem_of_getElem? (i := 6) rfl)) (fun _ h9 => h9) rfl dX1_takeChosen_42 ?_
    refine lv_iload_n hx hb dX1_takeChosen_45 rfl (lv_at hl 1 rfl) ?_
    change W _ _ _ _ _ _ _ _ _ _ _ _ _ _ _ (F0 m 46 ls [.int x1, .ref (ad 9), .int 1, .int (σ3.1 14 5), .ref (ad 14)])
    refine ux_iald hx hb hK hP 9 0 (Nat.lt_of_lt_of_le (Nat.le_of_ble_eq_true rfl : 9 < 182) (Nat.le_add_right _ _)) (cC_9 _ _ _ _ _) rfl h dX1_takeChosen_46 (fun v4 h => ?_)
    refine lv_ishl hx hb dX1_takeChosen_47 ?_
    refine lv_ior hx hb dX1_takeChosen_48 ?_
    refine ux_put (D := (dC, dI)) (ci := 1) (C := RX1) (T := TX1) (M := 9) (fs := (oCH ad (σ3.1 14))) hx hb hts (fun _ h9 => List.mem_cons_of_mem _ (List.mem_append_left _ (List.mem_append_right _ h9))) tyX1 tyX1_ok nmX1 hown hK hP hD hS 14 (Nat.lt_of_lt_of_le (Nat.le_of_ble_eq_true rfl : 14 < 182) (Nat.le_add_right _ _)) (cC_14 _ _ _ _ _) rfl 5 (by decide) (hts (.fieldLink RX1 28 "SeatsRound$Choice" "streetBits" "I") (List.mem_of_getElem? (i := 4) rfl)) (fun _ h9 => h9) rfl (tyX1_ok 5 (by decide)) rfl rfl (Nat.le_of_ble_eq_true rfl) (oC_14_5 _ _ _ _ _ _) h dX1_takeChosen_49 (fun σ5 H locs h hP hD hS => ?_)
    exact ux_vret hx hb hr h hP hD hS hlocks dX1_takeChosen_52
  intro H locs ls h hP hD hS hl
  exact w0 σ a1 H locs ls h hP hD hS (lv_sub hl [0, 1] rfl)

set_option maxHeartbeats 4000000 in
set_option maxRecDepth 100000 in
theorem tX1_isChosen (l : Launch) (dC : Nat → ClassId) (dI : Nat → Nat → Nat) (cy : Nat → ClassId) (ad : Nat → Nat) (τ nb : Nat) (hτ : τ < nb) (σ : S2) (a1 : Int32) (sz : Nat) (r0 : Int32) (h : fX1_isChosen τ σ a1 = some r0) : Met l yX1_isChosen wsX1_isChosen ({ frames := 1, cells := 0, slots := 0, locals := 23 }) (va_Pc [.ref (ad 14), .int a1] (wPre (dC, dI) cy (wG (cC cy ad τ) ad (182 + 6 * nb) σ) sz)) (va_Qi (fun (r : Int32) (_ : Unit) => r = r0) (fun (_ : Unit) t => wAt (dC, dI) (va_A (wG (cC cy ad τ) ad (182 + 6 * nb) σ) sz) (wG (cC cy ad τ) ad (182 + 6 * nb) σ) t) (va_A (wG (cC cy ad τ) ad (182 + 6 * nb) σ) sz)) 0 0 (va_A (wG (cC cy ad τ) ad (182 + 6 * nb) σ) sz) := by
  refine Met.ofW (cc := cX1_isChosen) (maxL := 2) (ret := (some .boolean)) (by decide) rfl ?_
  intro p e s m args below meth c s₁ B hml hv
  obtain ⟨rfl, hsz, hP, hK, hD0, hN⟩ := hv
  have hx := B.exec
  have hb := B.bytes
  have hr := B.returns
  have hts := atoms_spec (ws := wsX1_isChosen) B.pre
  have hown : s.vm.findClass RX1 = some m.cls := findClass_of_methodNamed B.named
  have hlocks := B.notSynchronized
  subst hsz
  have hD := hD0.self (sz := s.heap.size)
  generalize hAe : va_A (wG (cC cy ad τ) ad (182 + 6 * nb) σ) s.heap.size = A at hD ⊢
  have hA : ∀ q : Nat, s.heap.size ≤ q → A q := fun q h => by rw [← hAe]; exact Or.inr h
  have hS : va_S A s.heap s.heap [] := va_S.rf
  have hl := lv_entry ([.ref (ad 14), .int a1]) (n := 2) (Nat.le_of_ble_eq_true rfl)
  rw [lg_entry_eq]
  generalize (lg_sl ([.ref (ad 14), .int a1]) ++ List.replicate (2 - (lg_sl ([.ref (ad 14), .int a1])).length) Slot.unset).toArray = ls at hl ⊢
  have hl : lv_has ls 2 [(0, .ref (ad 14)), (1, .int a1)] := hl
  unfold fX1_isChosen at h
  clear hAe hD0
  suffices HH : ∀ (H : Heap) (locs : List Loc) (ls : Array Slot), fX1_isChosen_0 τ σ a1 = some r0 → va_P (dC, dI) vwCl (wG (cC cy ad τ) ad (182 + 6 * nb) σ) H → va_D A (wG (cC cy ad τ) ad (182 + 6 * nb) σ) → va_S A s.heap H locs → lv_has ls 2 [(0, .ref (ad 14)), (1, .int a1)] → W p l e (headSpec wsX1_isChosen ({ frames := 1, cells := 0, slots := 0, locals := 23 })).room s m (#[.ref (ad 14), .int a1]) below meth c H locs 0 0 (MQ below (va_Qi (fun (r : Int32) (_ : Unit) => r = r0) (fun (_ : Unit) t => wAt (dC, dI) A (wG (cC cy ad τ) ad (182 + 6 * nb) σ) t) A) (#[.ref (ad 14), .int a1]) s 0 0 A) (F0 m 0 ls []) from HH s.heap [] ls h hP hD hS hl
  have w0 : ∀ (σ : S2) (x1 : Int32) (H : Heap) (locs : List Loc) (ls : Array Slot), fX1_isChosen_0 τ σ x1 = some r0 → va_P (dC, dI) vwCl (wG (cC cy ad τ) ad (182 + 6 * nb) σ) H → va_D A (wG (cC cy ad τ) ad (182 + 6 * nb) σ) → va_S A s.heap H locs → lv_has ls 2 [(0, .ref (ad 14)), (1, .int x1)] → W p l e (headSpec wsX1_isChosen ({ frames := 1, cells := 0, slots := 0, locals := 23 })).room s m (#[.ref (ad 14), .int a1]) below meth c H locs 0 0 (MQ below (va_Qi (fun (r : Int32) (_ : Unit) => r = r0) (fun (_ : Unit) t => wAt (dC, dI) A (wG (cC cy ad τ) ad (182 + 6 * nb) σ) t) A) (#[.ref (ad 14), .int a1]) s 0 0 A) (F0 m 0 ls []) := by
    intro σ x1 H locs ls h hP hD hS hl
    unfold fX1_isChosen_0 at h
    refine lv_aload_n hx hb dX1_isChosen_0 rfl (lv_at hl 0 rfl) ?_
    refine ux_get (D := (dC, dI)) (ci := 1) (v := .int (σ.1 14 4)) (C := RX1) (T := TX1) (M := 9) (fs := (oCH ad (σ.1 14))) hx hb hts (fun _ h9 => List.mem_cons_of_mem _ (List.mem_append_right _ h9)) hown hK hP 14 (Nat.lt_of_lt_of_le (Nat.le_of_ble_eq_true rfl : 14 < 182) (Nat.le_add_right _ _)) (cC_14 _ _ _ _ _) rfl 4 (by decide) (hts (.fieldLink RX1 25 "SeatsRound$Choice" "chosenBits" "I") (List.mem_of_getElem? (i := 1) rfl)) (fun _ h9 => h9) rfl dX1_isChosen_1 ?_
    refine lv_iload_n hx hb dX1_isChosen_4 rfl (lv_at hl 1 rfl) ?_
    refine lv_ishr hx hb dX1_isChosen_5 ?_
    refine lv_iconst (v := 1) hx hb dX1_isChosen_6 (by decide) ?_
    refine lv_iand hx hb dX1_isChosen_7 ?_
    refine lv_iconst (v := 1) hx hb dX1_isChosen_8 (by decide) ?_
    refine lv_icmp_ne (tgt := 16) hx hb dX1_isChosen_9 (by decide) (fun hcd => ?_) (fun hcd => ?_)
    · have h := cdN hcd h
      refine lv_iconst (v := 0) hx hb dX1_isChosen_16 (by decide) ?_
      exact ux_zretP hx hb hr rfl h hP hD hS hlocks dX1_isChosen_17
    · have h := cdP hcd h
      refine lv_iconst (v := 1) hx hb dX1_isChosen_12 (by decide) ?_
      refine lv_goto (tgt := 17) hx hb dX1_isChosen_13 (by decide) ?_
      exact ux_zretP hx hb hr rfl h hP hD hS hlocks dX1_isChosen_17
  intro H locs ls h hP hD hS hl
  exact w0 σ a1 H locs ls h hP hD hS (lv_sub hl [0, 1] rfl)

set_option maxHeartbeats 4000000 in
set_option maxRecDepth 100000 in
theorem tX1_choose (l : Launch) (dC : Nat → ClassId) (dI : Nat → Nat → Nat) (cy : Nat → ClassId) (ad : Nat → Nat) (τ nb : Nat) (hτ : τ < nb) (b1 : Nat) (hb1 : b1 < nb) (σ : S2) (a2 : Int32) (sz : Nat) (r0 : Unit) (σ9 : S2) (h : fX1_choose τ b1 σ a2 = some (r0, σ9)) : Met l yX1_choose wsX1_choose ({ frames := 5, cells := 0, slots := 0, locals := 113 }) (va_Pc [.ref (ad 14), .ref (ad (182 + 6 * b1)), .int a2] (wPre (dC, dI) cy (wG (cC cy ad τ) ad (182 + 6 * nb) σ) sz)) (va_Qv (fun (_ : Unit) => True) (fun (_ : Unit) t => wAt (dC, dI) (va_A (wG (cC cy ad τ) ad (182 + 6 * nb) σ) sz) (wG (cC cy ad τ) ad (182 + 6 * nb) σ9) t) (va_A (wG (cC cy ad τ) ad (182 + 6 * nb) σ) sz)) 0 0 (va_A (wG (cC cy ad τ) ad (182 + 6 * nb) σ) sz) := by
  refine Met.ofW (cc := cX1_choose) (maxL := 4) (ret := none) (by decide) rfl ?_
  intro p e s m args below meth c s₁ B hml hv
  obtain ⟨rfl, hsz, hP, hK, hD0, hN⟩ := hv
  have hx := B.exec
  have hb := B.bytes
  have hr := B.returns
  have hts := atoms_spec (ws := wsX1_choose) B.pre
  have hown : s.vm.findClass RX1 = some m.cls := findClass_of_methodNamed B.named
  have hlocks := B.notSynchronized
  subst hsz
  have hD := hD0.self (sz := s.heap.size)
  generalize hAe : va_A (wG (cC cy ad τ) ad (182 + 6 * nb) σ) s.heap.size = A at hD ⊢
  have hA : ∀ q : Nat, s.heap.size ≤ q → A q := fun q h => by rw [← hAe]; exact Or.inr h
  have hS : va_S A s.heap s.heap [] := va_S.rf
  have hl := lv_entry ([.ref (ad 14), .ref (ad (182 + 6 * b1)), .int a2]) (n := 4) (Nat.le_of_ble_eq_true rfl)
  rw [lg_entry_eq]
  generalize (lg_sl ([.ref (ad 14), .ref (ad (182 + 6 * b1)), .int a2]) ++ List.replicate (4 - (lg_sl ([.ref (ad 14), .ref (ad (182 + 6 * b1)), .int a2])).length) Slot.unset).toArray = ls at hl ⊢
  have hl : lv_has ls 4 [(0, .ref (ad 14)), (1, .ref (ad (182 + 6 * b1))), (2, .int a2)] := hl
  unfold fX1_choose at h
  clear hAe hD0
  suffices HH : ∀ (H : Heap) (locs : List Loc) (ls : Array Slot), fX1_choose_0 τ b1 σ a2 = some (r0, σ9) → va_P (dC, dI) vwCl (wG (cC cy ad τ) ad (182 + 6 * nb) σ) H → va_D A (wG (cC cy ad τ) ad (182 + 6 * nb) σ) → va_S A s.heap H locs → lv_has ls 4 [(0, .ref (ad 14)), (1, .ref (ad (182 + 6 * b1))), (2, .int a2)] → W p l e (headSpec wsX1_choose ({ frames := 5, cells := 0, slots := 0, locals := 113 })).room s m (#[.ref (ad 14), .ref (ad (182 + 6 * b1)), .int a2]) below meth c H locs 0 0 (MQ below (va_Qv (fun (_ : Unit) => True) (fun (_ : Unit) t => wAt (dC, dI) A (wG (cC cy ad τ) ad (182 + 6 * nb) σ9) t) A) (#[.ref (ad 14), .ref (ad (182 + 6 * b1)), .int a2]) s 0 0 A) (F0 m 0 ls []) from HH s.heap [] ls h hP hD hS hl
  have w133 : ∀ (k91 : S2 → Int32 → Option (Unit × S2)) (hk91 : ∀ (σ : S2) (x3 : Int32) (H : Heap) (locs : List Loc) (ls : Array Slot), k91 σ x3 = some (r0, σ9) → va_P (dC, dI) vwCl (wG (cC cy ad τ) ad (182 + 6 * nb) σ) H → va_D A (wG (cC cy ad τ) ad (182 + 6 * nb) σ) → va_S A s.heap H locs → lv_has ls 4 [(0, .ref (ad 14)), (1, .ref (ad (182 + 6 * b1))), (3, .int x3)] → W p l e (headSpec wsX1_choose ({ frames := 5, cells := 0, slots := 0, locals := 113 })).room s m (#[.ref (ad 14), .ref (ad (182 + 6 * b1)), .int a2]) below meth c H locs 0 0 (MQ below (va_Qv (fun (_ : Unit) => True) (fun (_ : Unit) t => wAt (dC, dI) A (wG (cC cy ad τ) ad (182 + 6 * nb) σ9) t) A) (#[.ref (ad 14), .ref (ad (182 + 6 * b1)), .int a2]) s 0 0 A) (F0 m 91 ls [])) , ∀ (σ : S2) (x3 : Int32) (H : Heap) (locs : List Loc) (ls : Array Slot), fX1_choose_133 τ b1 k91 σ x3 = some (r0, σ9) → va_P (dC, dI) vwCl (wG (cC cy ad τ) ad (182 + 6 * nb) σ) H → va_D A (wG (cC cy ad τ) ad (182 + 6 * nb) σ) → va_S A s.heap H locs → lv_has ls 4 [(0, .ref (ad 14)), (1, .ref (ad (182 + 6 * b1))), (3, .int x3)] → W p l e (headSpec wsX1_choose ({ frames := 5, cells := 0, slots := 0, locals := 113 })).room s m (#[.ref (ad 14), .ref (ad (182 + 6 * b1)), .int a2]) below meth c H locs 0 0 (MQ below (va_Qv (fun (_ : Unit) => True) (fun (_ : Unit) t => wAt (dC, dI) A (wG (cC cy ad τ) ad (182 + 6 * nb) σ9) t) A) (#[.ref (ad 14), .ref (ad (182 + 6 * b1)), .int a2]) s 0 0 A) (F0 m 133 ls []) := by
    intro k91 hk91 σ x3 H locs ls h hP hD hS hl
    unfold fX1_choose_133 at h
    obtain ⟨v1, ev1⟩ : ∃ y : Int32, y = x3 + 1 := ⟨_, rfl⟩
    have h := nmS h ev1
    refine lv_iinc (v := v1) (lv' := [(3, .int v1), (0, .ref (ad 14)), (1, .ref (ad (182 + 6 * b1)))]) hx hb dX1_choose_133 hl (k := 2) rfl (by rw [ev1]; rfl) (by decide) rfl (fun ls hl => ?_)
    have hl := lv_sub hl [1, 2, 0] (l' := [(0, .ref (ad 14)), (1, .ref (ad (182 + 6 * b1))), (3, .int v1)]) rfl
    refine lv_goto (tgt := 91) hx hb dX1_choose_136 (by decide) ?_
    exact hk91 σ v1 H locs ls h hP hD hS hl
  have w91 : ∀ (n : Nat), ∀ (σ : S2) (x3 : Int32) (H : Heap) (locs : List Loc) (ls : Array Slot), fX1_choose_91 τ b1 n σ x3 = some (r0, σ9) → va_P (dC, dI) vwCl (wG (cC cy ad τ) ad (182 + 6 * nb) σ) H → va_D A (wG (cC cy ad τ) ad (182 + 6 * nb) σ) → va_S A s.heap H locs → lv_has ls 4 [(0, .ref (ad 14)), (1, .ref (ad (182 + 6 * b1))), (3, .int x3)] → W p l e (headSpec wsX1_choose ({ frames := 5, cells := 0, slots := 0, locals := 113 })).room s m (#[.ref (ad 14), .ref (ad (182 + 6 * b1)), .int a2]) below meth c H locs 0 0 (MQ below (va_Qv (fun (_ : Unit) => True) (fun (_ : Unit) t => wAt (dC, dI) A (wG (cC cy ad τ) ad (182 + 6 * nb) σ9) t) A) (#[.ref (ad 14), .ref (ad (182 + 6 * b1)), .int a2]) s 0 0 A) (F0 m 91 ls []) := by
    intro n
    induction n with
    | zero => intro σ x3 H locs ls h; cases h
    | succ n ih =>
    intro σ x3 H locs ls h hP hD hS hl
    unfold fX1_choose_91 at h
    refine lv_iload_n hx hb dX1_choose_91 rfl (lv_at hl 2 rfl) ?_
    refine lv_aload_n hx hb dX1_choose_92 rfl (lv_at hl 0 rfl) ?_
    refine ux_get (D := (dC, dI)) (ci := 1) (v := .int (σ.1 14 2)) (C := RX1) (T := TX1) (M := 9) (fs := (oCH ad (σ.1 14))) hx hb hts (fun _ h9 => List.mem_cons_of_mem _ (List.mem_append_left _ (List.mem_append_left _ (List.mem_append_right _ h9)))) hown hK hP 14 (Nat.lt_of_lt_of_le (Nat.le_of_ble_eq_true rfl : 14 < 182) (Nat.le_add_right _ _)) (cC_14 _ _ _ _ _) rfl 2 (by decide) (hts (.fieldLink RX1 18 "SeatsRound$Choice" "pickCount" "I") (List.mem_of_getElem? (i := 4) rfl)) (fun _ h9 => h9) rfl dX1_choose_93 ?_
    refine lv_icmp_ge (tgt := 139) hx hb dX1_choose_96 (by decide) (fun hcd => ?_) (fun hcd => ?_)
    · have h := cdP hcd h
      exact ux_vret hx hb hr h hP hD hS hlocks dX1_choose_139
    · have h := cdN hcd h
      refine lv_aload_n hx hb dX1_choose_99 rfl (lv_at hl 0 rfl) ?_
      refine ux_get (D := (dC, dI)) (ci := 1) (v := .int (σ.1 14 3)) (C := RX1) (T := TX1) (M := 9) (fs := (oCH ad (σ.1 14))) hx hb hts (fun _ h9 => List.mem_cons_of_mem _ (List.mem_append_left _ (List.mem_append_left _ (List.mem_append_right _ h9)))) hown hK hP 14 (Nat.lt_of_lt_of_le (Nat.le_of_ble_eq_true rfl : 14 < 182) (Nat.le_add_right _ _)) (cC_14 _ _ _ _ _) rfl 3 (by decide) (hts (.fieldLink RX1 22 "SeatsRound$Choice" "chosenCount" "I") (List.mem_of_getElem? (i := 1) rfl)) (fun _ h9 => h9) rfl dX1_choose_100 ?_
      refine lv_aload_n hx hb dX1_choose_103 rfl (lv_at hl 1 rfl) ?_
      refine ux_get (D := (dC, dI)) (ci := 8) (v := .int (σ.1 (182 + 6 * b1) 2)) (C := RX8) (T := TX8) (M := 13) (fs := (oTB ad (182 + 6 * b1) (σ.1 (182 + 6 * b1)))) hx hb hts (fun _ h9 => List.mem_cons_of_mem _ (List.mem_append_left _ (List.mem_append_right _ h9))) hown hK hP (182 + 6 * b1) (by omega) (cC_t0 _ _ _ _ _ b1) rfl 2 (by decide) (hts (.fieldLink RX1 92 "SeatsRound$Table" "copies" "I") (List.mem_of_getElem? (i := 5) rfl)) (fun _ h9 => h9) rfl dX1_choose_104 ?_
      refine lv_icmp_ge (tgt := 139) hx hb dX1_choose_107 (by decide) (fun hcd => ?_) (fun hcd => ?_)
      · have h := cdP hcd h
        exact ux_vret hx hb hr h hP hD hS hlocks dX1_choose_139
      · have h := cdN hcd h
        refine lv_aload_n hx hb dX1_choose_110 rfl (lv_at hl 0 rfl) ?_
        refine lv_aload_n hx hb dX1_choose_111 rfl (lv_at hl 0 rfl) ?_
        refine ux_get (D := (dC, dI)) (ci := 1) (v := .ref (ad 15)) (C := RX1) (T := TX1) (M := 9) (fs := (oCH ad (σ.1 14))) hx hb hts (fun _ h9 => List.mem_cons_of_mem _ (List.mem_append_left _ (List.mem_append_left _ (List.mem_append_right _ h9)))) hown hK hP 14 (Nat.lt_of_lt_of_le (Nat.le_of_ble_eq_true rfl : 14 < 182) (Nat.le_add_right _ _)) (cC_14 _ _ _ _ _) rfl 0 (by decide) (hts (.fieldLink RX1 9 "SeatsRound$Choice" "picks" "[I") (List.mem_of_getElem? (i := 13) rfl)) (fun _ h9 => h9) rfl dX1_choose_112 ?_
        refine lv_iload_n hx hb dX1_choose_115 rfl (lv_at hl 2 rfl) ?_
        refine ux_iald hx hb hK hP 15 0 (Nat.lt_of_lt_of_le (Nat.le_of_ble_eq_true rfl : 15 < 182) (Nat.le_add_right _ _)) (cC_15 _ _ _ _ _) rfl h dX1_choose_116 (fun v2 h => ?_)
        obtain ⟨r3, hf4, h⟩ := biS h
        refine ux_calli (va_runV (As := [.int v2]) (rest := []) ⟨hx, hb, hml, hown, hts⟩ (tX1_isChosen l dC dI cy ad τ nb hτ σ v2 H.size r3 hf4) (cwV 1 hts gX1_choose_X1_isChosen rfl rfl rfl (by decide +kernel) ⟨Nat.le_of_ble_eq_true rfl, Nat.le_of_ble_eq_true rfl⟩) (wp_V hK hN hP hD (va_recv hK hP (ci := 1) (q0 := 14) rfl (wG_of (Nat.lt_of_lt_of_le (Nat.le_of_ble_eq_true rfl : 14 < 182) (Nat.le_add_right _ _)) (cC_14 _ _ _ _ _)))) rfl rfl hl.1 rfl (lv_room (Nat.le_of_ble_eq_true rfl)) dX1_choose_117 ⟨Nat.le_of_ble_eq_true rfl, Nat.le_of_ble_eq_true rfl⟩) hD hS hA (fun H locs hP hD hS => ?_)
        refine lv_if_ne (tgt := 133) hx hb dX1_choose_120 (by decide) (fun hcd => ?_) (fun hcd => ?_)
        · have h := cdN hcd h
          exact w133 _ ih σ x3 H locs ls h hP hD hS hl
        · have h := cdP hcd h
          refine lv_aload_n hx hb dX1_choose_123 rfl (lv_at hl 0 rfl) ?_
          refine lv_aload_n hx hb dX1_choose_124 rfl (lv_at hl 0 rfl) ?_
          refine ux_get (D := (dC, dI)) (ci := 1) (v := .ref (ad 15)) (C := RX1) (T := TX1) (M := 9) (fs := (oCH ad (σ.1 14))) hx hb hts (fun _ h9 => List.mem_cons_of_mem _ (List.mem_append_left _ (List.mem_append_left _ (List.mem_append_right _ h9)))) hown hK hP 14 (Nat.lt_of_lt_of_le (Nat.le_of_ble_eq_true rfl : 14 < 182) (Nat.le_add_right _ _)) (cC_14 _ _ _ _ _) rfl 0 (by decide) (hts (.fieldLink RX1 9 "SeatsRound$Choice" "picks" "[I") (List.mem_of_getElem? (i := 13) rfl)) (fun _ h9 => h9) rfl dX1_choose_125 ?_
          refine lv_iload_n hx hb dX1_choose_128 rfl (lv_at hl 2 rfl) ?_
          refine ux_iald hx hb hK hP 15 0 (Nat.lt_of_lt_of_le (Nat.le_of_ble_eq_true rfl : 15 < 182) (Nat.le_add_right _ _)) (cC_15 _ _ _ _ _) rfl h dX1_choose_129 (fun v5 h => ?_)
          obtain ⟨r6, σ7, hf8, h⟩ := bsS h
          refine ux_callv (va_runV (As := [.int v5]) (rest := []) ⟨hx, hb, hml, hown, hts⟩ (tX1_takeChosen l dC dI cy ad τ nb hτ σ v5 H.size r6 σ7 hf8) (cwV 1 hts gX1_choose_X1_takeChosen rfl rfl rfl (by decide +kernel) ⟨Nat.le_of_ble_eq_true rfl, Nat.le_of_ble_eq_true rfl⟩) (wp_V hK hN hP hD (va_recv hK hP (ci := 1) (q0 := 14) rfl (wG_of (Nat.lt_of_lt_of_le (Nat.le_of_ble_eq_true rfl : 14 < 182) (Nat.le_add_right _ _)) (cC_14 _ _ _ _ _)))) rfl rfl hl.1 rfl (lv_room (Nat.le_of_ble_eq_true rfl)) dX1_choose_130 ⟨Nat.le_of_ble_eq_true rfl, Nat.le_of_ble_eq_true rfl⟩) hD hS hA (fun H locs hP hD hS => ?_)
          exact w133 _ ih σ7 x3 H locs ls h hP hD hS hl
  have w89 : ∀ (σ : S2)  (H : Heap) (locs : List Loc) (ls : Array Slot), fX1_choose_89 τ b1 σ = some (r0, σ9) → va_P (dC, dI) vwCl (wG (cC cy ad τ) ad (182 + 6 * nb) σ) H → va_D A (wG (cC cy ad τ) ad (182 + 6 * nb) σ) → va_S A s.heap H locs → lv_has ls 4 [(0, .ref (ad 14)), (1, .ref (ad (182 + 6 * b1)))] → W p l e (headSpec wsX1_choose ({ frames := 5, cells := 0, slots := 0, locals := 113 })).room s m (#[.ref (ad 14), .ref (ad (182 + 6 * b1)), .int a2]) below meth c H locs 0 0 (MQ below (va_Qv (fun (_ : Unit) => True) (fun (_ : Unit) t => wAt (dC, dI) A (wG (cC cy ad τ) ad (182 + 6 * nb) σ9) t) A) (#[.ref (ad 14), .ref (ad (182 + 6 * b1)), .int a2]) s 0 0 A) (F0 m 89 ls []) := by
    intro σ H locs ls h hP hD hS hl
    unfold fX1_choose_89 at h
    refine lv_iconst (v := 0) hx hb dX1_choose_89 (by decide) ?_
    refine lv_istore_n (lv' := [(3, .int 0), (0, .ref (ad 14)), (1, .ref (ad (182 + 6 * b1)))]) hx hb dX1_choose_90 rfl hl (by decide) rfl (fun ls hl => ?_)
    have hl := lv_sub hl [1, 2, 0] (l' := [(0, .ref (ad 14)), (1, .ref (ad (182 + 6 * b1))), (3, .int 0)]) rfl
    exact w91 FU σ 0 H locs ls h hP hD hS hl
  have w83 : ∀ (k23 : S2 → Int32 → Option (Unit × S2)) (hk23 : ∀ (σ : S2) (x3 : Int32) (H : Heap) (locs : List Loc) (ls : Array Slot), k23 σ x3 = some (r0, σ9) → va_P (dC, dI) vwCl (wG (cC cy ad τ) ad (182 + 6 * nb) σ) H → va_D A (wG (cC cy ad τ) ad (182 + 6 * nb) σ) → va_S A s.heap H locs → lv_has ls 4 [(0, .ref (ad 14)), (1, .ref (ad (182 + 6 * b1))), (3, .int x3)] → W p l e (headSpec wsX1_choose ({ frames := 5, cells := 0, slots := 0, locals := 113 })).room s m (#[.ref (ad 14), .ref (ad (182 + 6 * b1)), .int a2]) below meth c H locs 0 0 (MQ below (va_Qv (fun (_ : Unit) => True) (fun (_ : Unit) t => wAt (dC, dI) A (wG (cC cy ad τ) ad (182 + 6 * nb) σ9) t) A) (#[.ref (ad 14), .ref (ad (182 + 6 * b1)), .int a2]) s 0 0 A) (F0 m 23 ls [])) , ∀ (σ : S2) (x3 : Int32) (H : Heap) (locs : List Loc) (ls : Array Slot), fX1_choose_83 τ b1 k23 σ x3 = some (r0, σ9) → va_P (dC, dI) vwCl (wG (cC cy ad τ) ad (182 + 6 * nb) σ) H → va_D A (wG (cC cy ad τ) ad (182 + 6 * nb) σ) → va_S A s.heap H locs → lv_has ls 4 [(0, .ref (ad 14)), (1, .ref (ad (182 + 6 * b1))), (3, .int x3)] → W p l e (headSpec wsX1_choose ({ frames := 5, cells := 0, slots := 0, locals := 113 })).room s m (#[.ref (ad 14), .ref (ad (182 + 6 * b1)), .int a2]) below meth c H locs 0 0 (MQ below (va_Qv (fun (_ : Unit) => True) (fun (_ : Unit) t => wAt (dC, dI) A (wG (cC cy ad τ) ad (182 + 6 * nb) σ9) t) A) (#[.ref (ad 14), .ref (ad (182 + 6 * b1)), .int a2]) s 0 0 A) (F0 m 83 ls []) := by
    intro k23 hk23 σ x3 H locs ls h hP hD hS hl
    unfold fX1_choose_83 at h
    obtain ⟨v9, ev9⟩ : ∃ y : Int32, y = x3 + 1 := ⟨_, rfl⟩
    have h := nmS h ev9
    refine lv_iinc (v := v9) (lv' := [(3, .int v9), (0, .ref (ad 14)), (1, .ref (ad (182 + 6 * b1)))]) hx hb dX1_choose_83 hl (k := 2) rfl (by rw [ev9]; rfl) (by decide) rfl (fun ls hl => ?_)
    have hl := lv_sub hl [1, 2, 0] (l' := [(0, .ref (ad 14)), (1, .ref (ad (182 + 6 * b1))), (3, .int v9)]) rfl
    refine lv_goto (tgt := 23) hx hb dX1_choose_86 (by decide) ?_
    exact hk23 σ v9 H locs ls h hP hD hS hl
  have w23 : ∀ (n : Nat), ∀ (σ : S2) (x3 : Int32) (H : Heap) (locs : List Loc) (ls : Array Slot), fX1_choose_23 τ b1 n σ x3 = some (r0, σ9) → va_P (dC, dI) vwCl (wG (cC cy ad τ) ad (182 + 6 * nb) σ) H → va_D A (wG (cC cy ad τ) ad (182 + 6 * nb) σ) → va_S A s.heap H locs → lv_has ls 4 [(0, .ref (ad 14)), (1, .ref (ad (182 + 6 * b1))), (3, .int x3)] → W p l e (headSpec wsX1_choose ({ frames := 5, cells := 0, slots := 0, locals := 113 })).room s m (#[.ref (ad 14), .ref (ad (182 + 6 * b1)), .int a2]) below meth c H locs 0 0 (MQ below (va_Qv (fun (_ : Unit) => True) (fun (_ : Unit) t => wAt (dC, dI) A (wG (cC cy ad τ) ad (182 + 6 * nb) σ9) t) A) (#[.ref (ad 14), .ref (ad (182 + 6 * b1)), .int a2]) s 0 0 A) (F0 m 23 ls []) := by
    intro n
    induction n with
    | zero => intro σ x3 H locs ls h; cases h
    | succ n ih =>
    intro σ x3 H locs ls h hP hD hS hl
    unfold fX1_choose_23 at h
    refine lv_iload_n hx hb dX1_choose_23 rfl (lv_at hl 2 rfl) ?_
    refine lv_aload_n hx hb dX1_choose_24 rfl (lv_at hl 0 rfl) ?_
    refine ux_get (D := (dC, dI)) (ci := 1) (v := .int (σ.1 14 2)) (C := RX1) (T := TX1) (M := 9) (fs := (oCH ad (σ.1 14))) hx hb hts (fun _ h9 => List.mem_cons_of_mem _ (List.mem_append_left _ (List.mem_append_left _ (List.mem_append_right _ h9)))) hown hK hP 14 (Nat.lt_of_lt_of_le (Nat.le_of_ble_eq_true rfl : 14 < 182) (Nat.le_add_right _ _)) (cC_14 _ _ _ _ _) rfl 2 (by decide) (hts (.fieldLink RX1 18 "SeatsRound$Choice" "pickCount" "I") (List.mem_of_getElem? (i := 4) rfl)) (fun _ h9 => h9) rfl dX1_choose_25 ?_
    refine lv_icmp_ge (tgt := 89) hx hb dX1_choose_28 (by decide) (fun hcd => ?_) (fun hcd => ?_)
    · have h := cdP hcd h
      exact w89 σ H locs ls h hP hD hS (lv_sub hl [0, 1] rfl)
    · have h := cdN hcd h
      refine lv_aload_n hx hb dX1_choose_31 rfl (lv_at hl 0 rfl) ?_
      refine ux_get (D := (dC, dI)) (ci := 1) (v := .int (σ.1 14 3)) (C := RX1) (T := TX1) (M := 9) (fs := (oCH ad (σ.1 14))) hx hb hts (fun _ h9 => List.mem_cons_of_mem _ (List.mem_append_left _ (List.mem_append_left _ (List.mem_append_right _ h9)))) hown hK hP 14 (Nat.lt_of_lt_of_le (Nat.le_of_ble_eq_true rfl : 14 < 182) (Nat.le_add_right _ _)) (cC_14 _ _ _ _ _) rfl 3 (by decide) (hts (.fieldLink RX1 22 "SeatsRound$Choice" "chosenCount" "I") (List.mem_of_getElem? (i := 1) rfl)) (fun _ h9 => h9) rfl dX1_choose_32 ?_
      refine lv_aload_n hx hb dX1_choose_35 rfl (lv_at hl 1 rfl) ?_
      refine ux_get (D := (dC, dI)) (ci := 8) (v := .int (σ.1 (182 + 6 * b1) 2)) (C := RX8) (T := TX8) (M := 13) (fs := (oTB ad (182 + 6 * b1) (σ.1 (182 + 6 * b1)))) hx hb hts (fun _ h9 => List.mem_cons_of_mem _ (List.mem_append_left _ (List.mem_append_right _ h9))) hown hK hP (182 + 6 * b1) (by omega) (cC_t0 _ _ _ _ _ b1) rfl 2 (by decide) (hts (.fieldLink RX1 92 "SeatsRound$Table" "copies" "I") (List.mem_of_getElem? (i := 5) rfl)) (fun _ h9 => h9) rfl dX1_choose_36 ?_
      refine lv_aload_n hx hb dX1_choose_39 rfl (lv_at hl 1 rfl) ?_
      refine ux_get (D := (dC, dI)) (ci := 8) (v := .int (σ.1 (182 + 6 * b1) 3)) (C := RX8) (T := TX8) (M := 13) (fs := (oTB ad (182 + 6 * b1) (σ.1 (182 + 6 * b1)))) hx hb hts (fun _ h9 => List.mem_cons_of_mem _ (List.mem_append_left _ (List.mem_append_right _ h9))) hown hK hP (182 + 6 * b1) (by omega) (cC_t0 _ _ _ _ _ b1) rfl 3 (by decide) (hts (.fieldLink RX1 95 "SeatsRound$Table" "streets" "I") (List.mem_of_getElem? (i := 6) rfl)) (fun _ h9 => h9) rfl dX1_choose_40 ?_
      refine va_mmin hx hb (hml.trans hl.1.symm) hown (hts (.methodLink RX1 98 Lib.Math.min.name) (List.mem_of_getElem? (i := 7) rfl)) (hts (.static Lib.Math.min.name) (List.mem_of_getElem? (i := 8) rfl)) (hts (.initialized "java/lang/Math") (List.mem_of_getElem? (i := 9) rfl)) (hts (.code Lib.Math.min.name Lib.Math.min.code 2 (some .int)) (List.mem_of_getElem? (i := 10) rfl)) (Nat.le_of_ble_eq_true rfl) (Nat.le_of_ble_eq_true rfl) (Nat.le_of_ble_eq_true rfl) (Nat.le_of_ble_eq_true rfl) dX1_choose_43 ?_
      refine lv_icmp_ge (tgt := 89) hx hb dX1_choose_46 (by decide) (fun hcd => ?_) (fun hcd => ?_)
      · have h := cdP hcd h
        exact w89 σ H locs ls h hP hD hS (lv_sub hl [0, 1] rfl)
      · have h := cdN hcd h
        refine lv_aload_n hx hb dX1_choose_49 rfl (lv_at hl 0 rfl) ?_
        refine ux_get (D := (dC, dI)) (ci := 1) (v := .int (σ.1 14 5)) (C := RX1) (T := TX1) (M := 9) (fs := (oCH ad (σ.1 14))) hx hb hts (fun _ h9 => List.mem_cons_of_mem _ (List.mem_append_left _ (List.mem_append_left _ (List.mem_append_right _ h9)))) hown hK hP 14 (Nat.lt_of_lt_of_le (Nat.le_of_ble_eq_true rfl : 14 < 182) (Nat.le_add_right _ _)) (cC_14 _ _ _ _ _) rfl 5 (by decide) (hts (.fieldLink RX1 28 "SeatsRound$Choice" "streetBits" "I") (List.mem_of_getElem? (i := 3) rfl)) (fun _ h9 => h9) rfl dX1_choose_50 ?_
        refine lv_aload_n hx hb dX1_choose_53 rfl (lv_at hl 0 rfl) ?_
        refine ux_get (D := (dC, dI)) (ci := 1) (v := .ref (ad 7)) (C := RX1) (T := TX1) (M := 9) (fs := (oCH ad (σ.1 14))) hx hb hts (fun _ h9 => List.mem_cons_of_mem _ (List.mem_append_left _ (List.mem_append_left _ (List.mem_append_right _ h9)))) hown hK hP 14 (Nat.lt_of_lt_of_le (Nat.le_of_ble_eq_true rfl : 14 < 182) (Nat.le_add_right _ _)) (cC_14 _ _ _ _ _) rfl 8 (by decide) (hts (.fieldLink RX1 37 "SeatsRound$Choice" "keepers" "LSeatsRound$Keepers;") (List.mem_of_getElem? (i := 11) rfl)) (fun _ h9 => h9) rfl dX1_choose_54 ?_
        refine ux_get (D := (dC, dI)) (ci := 2) (v := .ref (ad 9)) (C := RX2) (T := TX2) (M := 6) (fs := (oKP ad (σ.1 7))) hx hb hts (fun _ h9 => List.mem_cons_of_mem _ (List.mem_append_right _ h9)) hown hK hP 7 (Nat.lt_of_lt_of_le (Nat.le_of_ble_eq_true rfl : 7 < 182) (Nat.le_add_right _ _)) (cC_7 _ _ _ _ _) rfl 1 (by decide) (hts (.fieldLink RX1 103 "SeatsRound$Keepers" "street" "[I") (List.mem_of_getElem? (i := 12) rfl)) (fun _ h9 => h9) rfl dX1_choose_57 ?_
        refine lv_aload_n hx hb dX1_choose_60 rfl (lv_at hl 0 rfl) ?_
        refine ux_get (D := (dC, dI)) (ci := 1) (v := .ref (ad 15)) (C := RX1) (T := TX1) (M := 9) (fs := (oCH ad (σ.1 14))) hx hb hts (fun _ h9 => List.mem_cons_of_mem _ (List.mem_append_left _ (List.mem_append_left _ (List.mem_append_right _ h9)))) hown hK hP 14 (Nat.lt_of_lt_of_le (Nat.le_of_ble_eq_true rfl : 14 < 182) (Nat.le_add_right _ _)) (cC_14 _ _ _ _ _) rfl 0 (by decide) (hts (.fieldLink RX1 9 "SeatsRound$Choice" "picks" "[I") (List.mem_of_getElem? (i := 13) rfl)) (fun _ h9 => h9) rfl dX1_choose_61 ?_
        refine lv_iload_n hx hb dX1_choose_64 rfl (lv_at hl 2 rfl) ?_
        change W _ _ _ _ _ _ _ _ _ _ _ _ _ _ _ (F0 m 65 ls [.int x3, .ref (ad 15), .ref (ad 9), .int (σ.1 14 5)])
        refine ux_iald hx hb hK hP 15 0 (Nat.lt_of_lt_of_le (Nat.le_of_ble_eq_true rfl : 15 < 182) (Nat.le_add_right _ _)) (cC_15 _ _ _ _ _) rfl h dX1_choose_65 (fun v10 h => ?_)
        refine ux_iald hx hb hK hP 9 0 (Nat.lt_of_lt_of_le (Nat.le_of_ble_eq_true rfl : 9 < 182) (Nat.le_add_right _ _)) (cC_9 _ _ _ _ _) rfl h dX1_choose_66 (fun v11 h => ?_)
        refine lv_ishr hx hb dX1_choose_67 ?_
        refine lv_iconst (v := 1) hx hb dX1_choose_68 (by decide) ?_
        refine lv_iand hx hb dX1_choose_69 ?_
        refine lv_if_ne (tgt := 83) hx hb dX1_choose_70 (by decide) (fun hcd => ?_) (fun hcd => ?_)
        · have h := cdN hcd h
          exact w83 _ ih σ x3 H locs ls h hP hD hS hl
        · have h := cdP hcd h
          refine lv_aload_n hx hb dX1_choose_73 rfl (lv_at hl 0 rfl) ?_
          refine lv_aload_n hx hb dX1_choose_74 rfl (lv_at hl 0 rfl) ?_
          refine ux_get (D := (dC, dI)) (ci := 1) (v := .ref (ad 15)) (C := RX1) (T := TX1) (M := 9) (fs := (oCH ad (σ.1 14))) hx hb hts (fun _ h9 => List.mem_cons_of_mem _ (List.mem_append_left _ (List.mem_append_left _ (List.mem_append_right _ h9)))) hown hK hP 14 (Nat.lt_of_lt_of_le (Nat.le_of_ble_eq_true rfl : 14 < 182) (Nat.le_add_right _ _)) (cC_14 _ _ _ _ _) rfl 0 (by decide) (hts (.fieldLink RX1 9 "SeatsRound$Choice" "picks" "[I") (List.mem_of_getElem? (i := 13) rfl)) (fun _ h9 => h9) rfl dX1_choose_75 ?_
          refine lv_iload_n hx hb dX1_choose_78 rfl (lv_at hl 2 rfl) ?_
          refine ux_iald hx hb hK hP 15 0 (Nat.lt_of_lt_of_le (Nat.le_of_ble_eq_true rfl : 15 < 182) (Nat.le_add_right _ _)) (cC_15 _ _ _ _ _) rfl h dX1_choose_79 (fun v12 h => ?_)
          obtain ⟨r13, σ14, hf15, h⟩ := bsS h
          refine ux_callv (va_runV (As := [.int v12]) (rest := []) ⟨hx, hb, hml, hown, hts⟩ (tX1_takeChosen l dC dI cy ad τ nb hτ σ v12 H.size r13 σ14 hf15) (cwV 1 hts gX1_choose_X1_takeChosen rfl rfl rfl (by decide +kernel) ⟨Nat.le_of_ble_eq_true rfl, Nat.le_of_ble_eq_true rfl⟩) (wp_V hK hN hP hD (va_recv hK hP (ci := 1) (q0 := 14) rfl (wG_of (Nat.lt_of_lt_of_le (Nat.le_of_ble_eq_true rfl : 14 < 182) (Nat.le_add_right _ _)) (cC_14 _ _ _ _ _)))) rfl rfl hl.1 rfl (lv_room (Nat.le_of_ble_eq_true rfl)) dX1_choose_80 ⟨Nat.le_of_ble_eq_true rfl, Nat.le_of_ble_eq_true rfl⟩) hD hS hA (fun H locs hP hD hS => ?_)
          exact w83 _ ih σ14 x3 H locs ls h hP hD hS hl
  have w0 : ∀ (σ : S2) (x2 : Int32) (H : Heap) (locs : List Loc) (ls : Array Slot), fX1_choose_0 τ b1 σ x2 = some (r0, σ9) → va_P (dC, dI) vwCl (wG (cC cy ad τ) ad (182 + 6 * nb) σ) H → va_D A (wG (cC cy ad τ) ad (182 + 6 * nb) σ) → va_S A s.heap H locs → lv_has ls 4 [(0, .ref (ad 14)), (1, .ref (ad (182 + 6 * b1))), (2, .int x2)] → W p l e (headSpec wsX1_choose ({ frames := 5, cells := 0, slots := 0, locals := 113 })).room s m (#[.ref (ad 14), .ref (ad (182 + 6 * b1)), .int a2]) below meth c H locs 0 0 (MQ below (va_Qv (fun (_ : Unit) => True) (fun (_ : Unit) t => wAt (dC, dI) A (wG (cC cy ad τ) ad (182 + 6 * nb) σ9) t) A) (#[.ref (ad 14), .ref (ad (182 + 6 * b1)), .int a2]) s 0 0 A) (F0 m 0 ls []) := by
    intro σ x2 H locs ls h hP hD hS hl
    unfold fX1_choose_0 at h
    refine lv_aload_n hx hb dX1_choose_0 rfl (lv_at hl 0 rfl) ?_
    refine lv_aload_n hx hb dX1_choose_1 rfl (lv_at hl 1 rfl) ?_
    refine lv_iload_n hx hb dX1_choose_2 rfl (lv_at hl 2 rfl) ?_
    obtain ⟨r16, σ17, hf18, h⟩ := bsS h
    refine ux_callv (va_runV (As := [.ref (ad (182 + 6 * b1)), .int x2]) (rest := []) ⟨hx, hb, hml, hown, hts⟩ (tX1_pick l dC dI cy ad τ nb hτ b1 (by omega) σ x2 H.size r16 σ17 hf18) (cwV 2 hts gX1_choose_X1_pick rfl rfl rfl (by decide +kernel) ⟨Nat.le_of_ble_eq_true rfl, Nat.le_of_ble_eq_true rfl⟩) (wp_V hK hN hP hD (va_recv hK hP (ci := 1) (q0 := 14) rfl (wG_of (Nat.lt_of_lt_of_le (Nat.le_of_ble_eq_true rfl : 14 < 182) (Nat.le_add_right _ _)) (cC_14 _ _ _ _ _)))) rfl rfl hl.1 rfl (lv_room (Nat.le_of_ble_eq_true rfl)) dX1_choose_3 ⟨Nat.le_of_ble_eq_true rfl, Nat.le_of_ble_eq_true rfl⟩) hD hS hA (fun H locs hP hD hS => ?_)
    refine lv_aload_n hx hb dX1_choose_6 rfl (lv_at hl 0 rfl) ?_
    refine lv_iconst (v := 0) hx hb dX1_choose_7 (by decide) ?_
    refine ux_put (D := (dC, dI)) (ci := 1) (C := RX1) (T := TX1) (M := 9) (fs := (oCH ad (σ17.1 14))) hx hb hts (fun _ h9 => List.mem_cons_of_mem _ (List.mem_append_left _ (List.mem_append_left _ (List.mem_append_right _ h9)))) tyX1 tyX1_ok nmX1 hown hK hP hD hS 14 (Nat.lt_of_lt_of_le (Nat.le_of_ble_eq_true rfl : 14 < 182) (Nat.le_add_right _ _)) (cC_14 _ _ _ _ _) rfl 3 (by decide) (hts (.fieldLink RX1 22 "SeatsRound$Choice" "chosenCount" "I") (List.mem_of_getElem? (i := 1) rfl)) (fun _ h9 => h9) rfl (tyX1_ok 3 (by decide)) rfl rfl (Nat.le_of_ble_eq_true rfl) (oC_14_3 _ _ _ _ _ _) h dX1_choose_8 (fun σ19 H locs h hP hD hS => ?_)
    refine lv_aload_n hx hb dX1_choose_11 rfl (lv_at hl 0 rfl) ?_
    refine lv_iconst (v := 0) hx hb dX1_choose_12 (by decide) ?_
    refine ux_put (D := (dC, dI)) (ci := 1) (C := RX1) (T := TX1) (M := 9) (fs := (oCH ad (σ19.1 14))) hx hb hts (fun _ h9 => List.mem_cons_of_mem _ (List.mem_append_left _ (List.mem_append_left _ (List.mem_append_right _ h9)))) tyX1 tyX1_ok nmX1 hown hK hP hD hS 14 (Nat.lt_of_lt_of_le (Nat.le_of_ble_eq_true rfl : 14 < 182) (Nat.le_add_right _ _)) (cC_14 _ _ _ _ _) rfl 4 (by decide) (hts (.fieldLink RX1 25 "SeatsRound$Choice" "chosenBits" "I") (List.mem_of_getElem? (i := 2) rfl)) (fun _ h9 => h9) rfl (tyX1_ok 4 (by decide)) rfl rfl (Nat.le_of_ble_eq_true rfl) (oC_14_4 _ _ _ _ _ _) h dX1_choose_13 (fun σ20 H locs h hP hD hS => ?_)
    refine lv_aload_n hx hb dX1_choose_16 rfl (lv_at hl 0 rfl) ?_
    refine lv_iconst (v := 0) hx hb dX1_choose_17 (by decide) ?_
    refine ux_put (D := (dC, dI)) (ci := 1) (C := RX1) (T := TX1) (M := 9) (fs := (oCH ad (σ20.1 14))) hx hb hts (fun _ h9 => List.mem_cons_of_mem _ (List.mem_append_left _ (List.mem_append_left _ (List.mem_append_right _ h9)))) tyX1 tyX1_ok nmX1 hown hK hP hD hS 14 (Nat.lt_of_lt_of_le (Nat.le_of_ble_eq_true rfl : 14 < 182) (Nat.le_add_right _ _)) (cC_14 _ _ _ _ _) rfl 5 (by decide) (hts (.fieldLink RX1 28 "SeatsRound$Choice" "streetBits" "I") (List.mem_of_getElem? (i := 3) rfl)) (fun _ h9 => h9) rfl (tyX1_ok 5 (by decide)) rfl rfl (Nat.le_of_ble_eq_true rfl) (oC_14_5 _ _ _ _ _ _) h dX1_choose_18 (fun σ21 H locs h hP hD hS => ?_)
    refine lv_iconst (v := 0) hx hb dX1_choose_21 (by decide) ?_
    refine lv_istore_n (lv' := [(3, .int 0), (0, .ref (ad 14)), (1, .ref (ad (182 + 6 * b1))), (2, .int x2)]) hx hb dX1_choose_22 rfl hl (by decide) rfl (fun ls hl => ?_)
    have hl := lv_sub hl [1, 2, 3, 0] (l' := [(0, .ref (ad 14)), (1, .ref (ad (182 + 6 * b1))), (2, .int x2), (3, .int 0)]) rfl
    exact w23 FU σ21 0 H locs ls h hP hD hS (lv_sub hl [0, 1, 3] rfl)
  intro H locs ls h hP hD hS hl
  exact w0 σ a2 H locs ls h hP hD hS (lv_sub hl [0, 1, 2] rfl)

set_option maxHeartbeats 4000000 in
set_option maxRecDepth 100000 in
theorem tX2_has (l : Launch) (dC : Nat → ClassId) (dI : Nat → Nat → Nat) (cy : Nat → ClassId) (ad : Nat → Nat) (τ nb : Nat) (hτ : τ < nb) (σ : S2) (a1 : Int32) (sz : Nat) (r0 : Int32) (h : fX2_has τ σ a1 = some r0) : Met l yX2_has wsX2_has ({ frames := 1, cells := 0, slots := 0, locals := 23 }) (va_Pc [.ref (ad 7), .int a1] (wPre (dC, dI) cy (wG (cC cy ad τ) ad (182 + 6 * nb) σ) sz)) (va_Qi (fun (r : Int32) (_ : Unit) => r = r0) (fun (_ : Unit) t => wAt (dC, dI) (va_A (wG (cC cy ad τ) ad (182 + 6 * nb) σ) sz) (wG (cC cy ad τ) ad (182 + 6 * nb) σ) t) (va_A (wG (cC cy ad τ) ad (182 + 6 * nb) σ) sz)) 0 0 (va_A (wG (cC cy ad τ) ad (182 + 6 * nb) σ) sz) := by
  refine Met.ofW (cc := cX2_has) (maxL := 2) (ret := (some .boolean)) (by decide) rfl ?_
  intro p e s m args below meth c s₁ B hml hv
  obtain ⟨rfl, hsz, hP, hK, hD0, hN⟩ := hv
  have hx := B.exec
  have hb := B.bytes
  have hr := B.returns
  have hts := atoms_spec (ws := wsX2_has) B.pre
  have hown : s.vm.findClass RX2 = some m.cls := findClass_of_methodNamed B.named
  have hlocks := B.notSynchronized
  subst hsz
  have hD := hD0.self (sz := s.heap.size)
  generalize hAe : va_A (wG (cC cy ad τ) ad (182 + 6 * nb) σ) s.heap.size = A at hD ⊢
  have hA : ∀ q : Nat, s.heap.size ≤ q → A q := fun q h => by rw [← hAe]; exact Or.inr h
  have hS : va_S A s.heap s.heap [] := va_S.rf
  have hl := lv_entry ([.ref (ad 7), .int a1]) (n := 2) (Nat.le_of_ble_eq_true rfl)
  rw [lg_entry_eq]
  generalize (lg_sl ([.ref (ad 7), .int a1]) ++ List.replicate (2 - (lg_sl ([.ref (ad 7), .int a1])).length) Slot.unset).toArray = ls at hl ⊢
  have hl : lv_has ls 2 [(0, .ref (ad 7)), (1, .int a1)] := hl
  unfold fX2_has at h
  clear hAe hD0
  suffices HH : ∀ (H : Heap) (locs : List Loc) (ls : Array Slot), fX2_has_0 τ σ a1 = some r0 → va_P (dC, dI) vwCl (wG (cC cy ad τ) ad (182 + 6 * nb) σ) H → va_D A (wG (cC cy ad τ) ad (182 + 6 * nb) σ) → va_S A s.heap H locs → lv_has ls 2 [(0, .ref (ad 7)), (1, .int a1)] → W p l e (headSpec wsX2_has ({ frames := 1, cells := 0, slots := 0, locals := 23 })).room s m (#[.ref (ad 7), .int a1]) below meth c H locs 0 0 (MQ below (va_Qi (fun (r : Int32) (_ : Unit) => r = r0) (fun (_ : Unit) t => wAt (dC, dI) A (wG (cC cy ad τ) ad (182 + 6 * nb) σ) t) A) (#[.ref (ad 7), .int a1]) s 0 0 A) (F0 m 0 ls []) from HH s.heap [] ls h hP hD hS hl
  have w0 : ∀ (σ : S2) (x1 : Int32) (H : Heap) (locs : List Loc) (ls : Array Slot), fX2_has_0 τ σ x1 = some r0 → va_P (dC, dI) vwCl (wG (cC cy ad τ) ad (182 + 6 * nb) σ) H → va_D A (wG (cC cy ad τ) ad (182 + 6 * nb) σ) → va_S A s.heap H locs → lv_has ls 2 [(0, .ref (ad 7)), (1, .int x1)] → W p l e (headSpec wsX2_has ({ frames := 1, cells := 0, slots := 0, locals := 23 })).room s m (#[.ref (ad 7), .int a1]) below meth c H locs 0 0 (MQ below (va_Qi (fun (r : Int32) (_ : Unit) => r = r0) (fun (_ : Unit) t => wAt (dC, dI) A (wG (cC cy ad τ) ad (182 + 6 * nb) σ) t) A) (#[.ref (ad 7), .int a1]) s 0 0 A) (F0 m 0 ls []) := by
    intro σ x1 H locs ls h hP hD hS hl
    unfold fX2_has_0 at h
    refine lv_iload_n hx hb dX2_has_0 rfl (lv_at hl 1 rfl) ?_
    refine lv_if_lt (tgt := 16) hx hb dX2_has_1 (by decide) (fun hcd => ?_) (fun hcd => ?_)
    · have h := cdP hcd h
      refine lv_iconst (v := 0) hx hb dX2_has_16 (by decide) ?_
      exact ux_zretP hx hb hr rfl h hP hD hS hlocks dX2_has_17
    · have h := cdN hcd h
      refine lv_iload_n hx hb dX2_has_4 rfl (lv_at hl 1 rfl) ?_
      refine lv_aload_n hx hb dX2_has_5 rfl (lv_at hl 0 rfl) ?_
      refine ux_get (D := (dC, dI)) (ci := 2) (v := .int (σ.1 7 5)) (C := RX2) (T := TX2) (M := 6) (fs := (oKP ad (σ.1 7))) hx hb hts (fun _ h9 => List.mem_cons_of_mem _ (List.mem_append_right _ h9)) hown hK hP 7 (Nat.lt_of_lt_of_le (Nat.le_of_ble_eq_true rfl : 7 < 182) (Nat.le_add_right _ _)) (cC_7 _ _ _ _ _) rfl 5 (by decide) (hts (.fieldLink RX2 28 "SeatsRound$Keepers" "count" "I") (List.mem_of_getElem? (i := 1) rfl)) (fun _ h9 => h9) rfl dX2_has_6 ?_
      refine lv_icmp_ge (tgt := 16) hx hb dX2_has_9 (by decide) (fun hcd => ?_) (fun hcd => ?_)
      · have h := cdP hcd h
        refine lv_iconst (v := 0) hx hb dX2_has_16 (by decide) ?_
        exact ux_zretP hx hb hr rfl h hP hD hS hlocks dX2_has_17
      · have h := cdN hcd h
        refine lv_iconst (v := 1) hx hb dX2_has_12 (by decide) ?_
        refine lv_goto (tgt := 17) hx hb dX2_has_13 (by decide) ?_
        exact ux_zretP hx hb hr rfl h hP hD hS hlocks dX2_has_17
  intro H locs ls h hP hD hS hl
  exact w0 σ a1 H locs ls h hP hD hS (lv_sub hl [0, 1] rfl)

set_option maxHeartbeats 4000000 in
set_option maxRecDepth 100000 in
theorem tX2_add (l : Launch) (dC : Nat → ClassId) (dI : Nat → Nat → Nat) (cy : Nat → ClassId) (ad : Nat → Nat) (τ nb : Nat) (hτ : τ < nb) (σ : S2) (a1 : Int32) (a2 : Int32) (sz : Nat) (r0 : Int32) (σ9 : S2) (h : fX2_add τ σ a1 a2 = some (r0, σ9)) : Met l yX2_add wsX2_add ({ frames := 1, cells := 0, slots := 0, locals := 23 }) (va_Pc [.ref (ad 7), .int a1, .int a2] (wPre (dC, dI) cy (wG (cC cy ad τ) ad (182 + 6 * nb) σ) sz)) (va_Qi (fun (r : Int32) (_ : Unit) => r = r0) (fun (_ : Unit) t => wAt (dC, dI) (va_A (wG (cC cy ad τ) ad (182 + 6 * nb) σ) sz) (wG (cC cy ad τ) ad (182 + 6 * nb) σ9) t) (va_A (wG (cC cy ad τ) ad (182 + 6 * nb) σ) sz)) 0 0 (va_A (wG (cC cy ad τ) ad (182 + 6 * nb) σ) sz) := by
  refine Met.ofW (cc := cX2_add) (maxL := 3) (ret := (some .int)) (by decide) rfl ?_
  intro p e s m args below meth c s₁ B hml hv
  obtain ⟨rfl, hsz, hP, hK, hD0, hN⟩ := hv
  have hx := B.exec
  have hb := B.bytes
  have hr := B.returns
  have hts := atoms_spec (ws := wsX2_add) B.pre
  have hown : s.vm.findClass RX2 = some m.cls := findClass_of_methodNamed B.named
  have hlocks := B.notSynchronized
  subst hsz
  have hD := hD0.self (sz := s.heap.size)
  generalize hAe : va_A (wG (cC cy ad τ) ad (182 + 6 * nb) σ) s.heap.size = A at hD ⊢
  have hA : ∀ q : Nat, s.heap.size ≤ q → A q := fun q h => by rw [← hAe]; exact Or.inr h
  have hS : va_S A s.heap s.heap [] := va_S.rf
  have hl := lv_entry ([.ref (ad 7), .int a1, .int a2]) (n := 3) (Nat.le_of_ble_eq_true rfl)
  rw [lg_entry_eq]
  generalize (lg_sl ([.ref (ad 7), .int a1, .int a2]) ++ List.replicate (3 - (lg_sl ([.ref (ad 7), .int a1, .int a2])).length) Slot.unset).toArray = ls at hl ⊢
  have hl : lv_has ls 3 [(0, .ref (ad 7)), (1, .int a1), (2, .int a2)] := hl
  unfold fX2_add at h
  clear hAe hD0
  suffices HH : ∀ (H : Heap) (locs : List Loc) (ls : Array Slot), fX2_add_0 τ σ a1 a2 = some (r0, σ9) → va_P (dC, dI) vwCl (wG (cC cy ad τ) ad (182 + 6 * nb) σ) H → va_D A (wG (cC cy ad τ) ad (182 + 6 * nb) σ) → va_S A s.heap H locs → lv_has ls 3 [(0, .ref (ad 7)), (1, .int a1), (2, .int a2)] → W p l e (headSpec wsX2_add ({ frames := 1, cells := 0, slots := 0, locals := 23 })).room s m (#[.ref (ad 7), .int a1, .int a2]) below meth c H locs 0 0 (MQ below (va_Qi (fun (r : Int32) (_ : Unit) => r = r0) (fun (_ : Unit) t => wAt (dC, dI) A (wG (cC cy ad τ) ad (182 + 6 * nb) σ9) t) A) (#[.ref (ad 7), .int a1, .int a2]) s 0 0 A) (F0 m 0 ls []) from HH s.heap [] ls h hP hD hS hl
  have w0 : ∀ (σ : S2) (x1 : Int32) (x2 : Int32) (H : Heap) (locs : List Loc) (ls : Array Slot), fX2_add_0 τ σ x1 x2 = some (r0, σ9) → va_P (dC, dI) vwCl (wG (cC cy ad τ) ad (182 + 6 * nb) σ) H → va_D A (wG (cC cy ad τ) ad (182 + 6 * nb) σ) → va_S A s.heap H locs → lv_has ls 3 [(0, .ref (ad 7)), (1, .int x1), (2, .int x2)] → W p l e (headSpec wsX2_add ({ frames := 1, cells := 0, slots := 0, locals := 23 })).room s m (#[.ref (ad 7), .int a1, .int a2]) below meth c H locs 0 0 (MQ below (va_Qi (fun (r : Int32) (_ : Unit) => r = r0) (fun (_ : Unit) t => wAt (dC, dI) A (wG (cC cy ad τ) ad (182 + 6 * nb) σ9) t) A) (#[.ref (ad 7), .int a1, .int a2]) s 0 0 A) (F0 m 0 ls []) := by
    intro σ x1 x2 H locs ls h hP hD hS hl
    unfold fX2_add_0 at h
    refine lv_aload_n hx hb dX2_add_0 rfl (lv_at hl 0 rfl) ?_
    refine ux_get (D := (dC, dI)) (ci := 2) (v := .ref (ad 8)) (C := RX2) (T := TX2) (M := 6) (fs := (oKP ad (σ.1 7))) hx hb hts (fun _ h9 => List.mem_cons_of_mem _ (List.mem_append_right _ h9)) hown hK hP 7 (Nat.lt_of_lt_of_le (Nat.le_of_ble_eq_true rfl : 7 < 182) (Nat.le_add_right _ _)) (cC_7 _ _ _ _ _) rfl 0 (by decide) (hts (.fieldLink RX2 9 "SeatsRound$Keepers" "kind" "[I") (List.mem_of_getElem? (i := 1) rfl)) (fun _ h9 => h9) rfl dX2_add_1 ?_
    refine lv_aload_n hx hb dX2_add_4 rfl (lv_at hl 0 rfl) ?_
    refine ux_get (D := (dC, dI)) (ci := 2) (v := .int (σ.1 7 5)) (C := RX2) (T := TX2) (M := 6) (fs := (oKP ad (σ.1 7))) hx hb hts (fun _ h9 => List.mem_cons_of_mem _ (List.mem_append_right _ h9)) hown hK hP 7 (Nat.lt_of_lt_of_le (Nat.le_of_ble_eq_true rfl : 7 < 182) (Nat.le_add_right _ _)) (cC_7 _ _ _ _ _) rfl 5 (by decide) (hts (.fieldLink RX2 28 "SeatsRound$Keepers" "count" "I") (List.mem_of_getElem? (i := 2) rfl)) (fun _ h9 => h9) rfl dX2_add_5 ?_
    refine lv_iconst (v := 0) hx hb dX2_add_8 (by decide) ?_
    refine ux_iast hx hb hK hP hD hS 8 0 (Nat.lt_of_lt_of_le (Nat.le_of_ble_eq_true rfl : 8 < 182) (Nat.le_add_right _ _)) (fun _ => (cC_8 _ _ _ _ _)) rfl h dX2_add_9 (fun σ1 H locs h hP hD hS => ?_)
    refine lv_aload_n hx hb dX2_add_10 rfl (lv_at hl 0 rfl) ?_
    refine ux_get (D := (dC, dI)) (ci := 2) (v := .ref (ad 9)) (C := RX2) (T := TX2) (M := 6) (fs := (oKP ad (σ1.1 7))) hx hb hts (fun _ h9 => List.mem_cons_of_mem _ (List.mem_append_right _ h9)) hown hK hP 7 (Nat.lt_of_lt_of_le (Nat.le_of_ble_eq_true rfl : 7 < 182) (Nat.le_add_right _ _)) (cC_7 _ _ _ _ _) rfl 1 (by decide) (hts (.fieldLink RX2 15 "SeatsRound$Keepers" "street" "[I") (List.mem_of_getElem? (i := 3) rfl)) (fun _ h9 => h9) rfl dX2_add_11 ?_
    refine lv_aload_n hx hb dX2_add_14 rfl (lv_at hl 0 rfl) ?_
    refine ux_get (D := (dC, dI)) (ci := 2) (v := .int (σ1.1 7 5)) (C := RX2) (T := TX2) (M := 6) (fs := (oKP ad (σ1.1 7))) hx hb hts (fun _ h9 => List.mem_cons_of_mem _ (List.mem_append_right _ h9)) hown hK hP 7 (Nat.lt_of_lt_of_le (Nat.le_of_ble_eq_true rfl : 7 < 182) (Nat.le_add_right _ _)) (cC_7 _ _ _ _ _) rfl 5 (by decide) (hts (.fieldLink RX2 28 "SeatsRound$Keepers" "count" "I") (List.mem_of_getElem? (i := 2) rfl)) (fun _ h9 => h9) rfl dX2_add_15 ?_
    refine lv_iload_n hx hb dX2_add_18 rfl (lv_at hl 1 rfl) ?_
    refine ux_iast hx hb hK hP hD hS 9 0 (Nat.lt_of_lt_of_le (Nat.le_of_ble_eq_true rfl : 9 < 182) (Nat.le_add_right _ _)) (fun _ => (cC_9 _ _ _ _ _)) rfl h dX2_add_19 (fun σ2 H locs h hP hD hS => ?_)
    refine lv_aload_n hx hb dX2_add_20 rfl (lv_at hl 0 rfl) ?_
    refine ux_get (D := (dC, dI)) (ci := 2) (v := .ref (ad 10)) (C := RX2) (T := TX2) (M := 6) (fs := (oKP ad (σ2.1 7))) hx hb hts (fun _ h9 => List.mem_cons_of_mem _ (List.mem_append_right _ h9)) hown hK hP 7 (Nat.lt_of_lt_of_le (Nat.le_of_ble_eq_true rfl : 7 < 182) (Nat.le_add_right _ _)) (cC_7 _ _ _ _ _) rfl 2 (by decide) (hts (.fieldLink RX2 18 "SeatsRound$Keepers" "strength" "[I") (List.mem_of_getElem? (i := 4) rfl)) (fun _ h9 => h9) rfl dX2_add_21 ?_
    refine lv_aload_n hx hb dX2_add_24 rfl (lv_at hl 0 rfl) ?_
    refine ux_get (D := (dC, dI)) (ci := 2) (v := .int (σ2.1 7 5)) (C := RX2) (T := TX2) (M := 6) (fs := (oKP ad (σ2.1 7))) hx hb hts (fun _ h9 => List.mem_cons_of_mem _ (List.mem_append_right _ h9)) hown hK hP 7 (Nat.lt_of_lt_of_le (Nat.le_of_ble_eq_true rfl : 7 < 182) (Nat.le_add_right _ _)) (cC_7 _ _ _ _ _) rfl 5 (by decide) (hts (.fieldLink RX2 28 "SeatsRound$Keepers" "count" "I") (List.mem_of_getElem? (i := 2) rfl)) (fun _ h9 => h9) rfl dX2_add_25 ?_
    refine lv_iload_n hx hb dX2_add_28 rfl (lv_at hl 2 rfl) ?_
    refine ux_iast hx hb hK hP hD hS 10 0 (Nat.lt_of_lt_of_le (Nat.le_of_ble_eq_true rfl : 10 < 182) (Nat.le_add_right _ _)) (fun _ => (cC_10 _ _ _ _ _)) rfl h dX2_add_29 (fun σ3 H locs h hP hD hS => ?_)
    refine lv_aload_n hx hb dX2_add_30 rfl (lv_at hl 0 rfl) ?_
    refine ux_get (D := (dC, dI)) (ci := 2) (v := .ref (ad 11)) (C := RX2) (T := TX2) (M := 6) (fs := (oKP ad (σ3.1 7))) hx hb hts (fun _ h9 => List.mem_cons_of_mem _ (List.mem_append_right _ h9)) hown hK hP 7 (Nat.lt_of_lt_of_le (Nat.le_of_ble_eq_true rfl : 7 < 182) (Nat.le_add_right _ _)) (cC_7 _ _ _ _ _) rfl 3 (by decide) (hts (.fieldLink RX2 21 "SeatsRound$Keepers" "table" "[I") (List.mem_of_getElem? (i := 5) rfl)) (fun _ h9 => h9) rfl dX2_add_31 ?_
    refine lv_aload_n hx hb dX2_add_34 rfl (lv_at hl 0 rfl) ?_
    refine ux_get (D := (dC, dI)) (ci := 2) (v := .int (σ3.1 7 5)) (C := RX2) (T := TX2) (M := 6) (fs := (oKP ad (σ3.1 7))) hx hb hts (fun _ h9 => List.mem_cons_of_mem _ (List.mem_append_right _ h9)) hown hK hP 7 (Nat.lt_of_lt_of_le (Nat.le_of_ble_eq_true rfl : 7 < 182) (Nat.le_add_right _ _)) (cC_7 _ _ _ _ _) rfl 5 (by decide) (hts (.fieldLink RX2 28 "SeatsRound$Keepers" "count" "I") (List.mem_of_getElem? (i := 2) rfl)) (fun _ h9 => h9) rfl dX2_add_35 ?_
    refine lv_iconst (v := (-1)) hx hb dX2_add_38 (by decide) ?_
    refine ux_iast hx hb hK hP hD hS 11 0 (Nat.lt_of_lt_of_le (Nat.le_of_ble_eq_true rfl : 11 < 182) (Nat.le_add_right _ _)) (fun _ => (cC_11 _ _ _ _ _)) rfl h dX2_add_39 (fun σ4 H locs h hP hD hS => ?_)
    refine lv_aload_n hx hb dX2_add_40 rfl (lv_at hl 0 rfl) ?_
    refine lv_dup hx hb dX2_add_41 rfl ?_
    refine ux_get (D := (dC, dI)) (ci := 2) (v := .int (σ4.1 7 5)) (C := RX2) (T := TX2) (M := 6) (fs := (oKP ad (σ4.1 7))) hx hb hts (fun _ h9 => List.mem_cons_of_mem _ (List.mem_append_right _ h9)) hown hK hP 7 (Nat.lt_of_lt_of_le (Nat.le_of_ble_eq_true rfl : 7 < 182) (Nat.le_add_right _ _)) (cC_7 _ _ _ _ _) rfl 5 (by decide) (hts (.fieldLink RX2 28 "SeatsRound$Keepers" "count" "I") (List.mem_of_getElem? (i := 2) rfl)) (fun _ h9 => h9) rfl dX2_add_42 ?_
    refine lv_iconst (v := 1) hx hb dX2_add_45 (by decide) ?_
    refine lv_iadd hx hb dX2_add_46 ?_
    refine ux_put (D := (dC, dI)) (ci := 2) (C := RX2) (T := TX2) (M := 6) (fs := (oKP ad (σ4.1 7))) hx hb hts (fun _ h9 => List.mem_cons_of_mem _ (List.mem_append_right _ h9)) tyX2 tyX2_ok nmX2 hown hK hP hD hS 7 (Nat.lt_of_lt_of_le (Nat.le_of_ble_eq_true rfl : 7 < 182) (Nat.le_add_right _ _)) (cC_7 _ _ _ _ _) rfl 5 (by decide) (hts (.fieldLink RX2 28 "SeatsRound$Keepers" "count" "I") (List.mem_of_getElem? (i := 2) rfl)) (fun _ h9 => h9) rfl (tyX2_ok 5 (by decide)) rfl rfl (Nat.le_of_ble_eq_true rfl) (oC_7_5 _ _ _ _ _ _) h dX2_add_47 (fun σ5 H locs h hP hD hS => ?_)
    refine lv_aload_n hx hb dX2_add_50 rfl (lv_at hl 0 rfl) ?_
    refine ux_get (D := (dC, dI)) (ci := 2) (v := .int (σ5.1 7 5)) (C := RX2) (T := TX2) (M := 6) (fs := (oKP ad (σ5.1 7))) hx hb hts (fun _ h9 => List.mem_cons_of_mem _ (List.mem_append_right _ h9)) hown hK hP 7 (Nat.lt_of_lt_of_le (Nat.le_of_ble_eq_true rfl : 7 < 182) (Nat.le_add_right _ _)) (cC_7 _ _ _ _ _) rfl 5 (by decide) (hts (.fieldLink RX2 28 "SeatsRound$Keepers" "count" "I") (List.mem_of_getElem? (i := 2) rfl)) (fun _ h9 => h9) rfl dX2_add_51 ?_
    refine lv_iconst (v := 1) hx hb dX2_add_54 (by decide) ?_
    refine lv_isub hx hb dX2_add_55 ?_
    exact ux_iret hx hb hr h hP hD hS hlocks dX2_add_56
  intro H locs ls h hP hD hS hl
  exact w0 σ a1 a2 H locs ls h hP hD hS (lv_sub hl [0, 1, 2] rfl)

set_option maxHeartbeats 4000000 in
set_option maxRecDepth 100000 in
theorem tX2_counting (l : Launch) (dC : Nat → ClassId) (dI : Nat → Nat → Nat) (cy : Nat → ClassId) (ad : Nat → Nat) (τ nb : Nat) (hτ : τ < nb) (σ : S2) (a1 : Int32) (sz : Nat) (r0 : Int32) (h : fX2_counting τ σ a1 = some r0) : Met l yX2_counting wsX2_counting ({ frames := 1, cells := 0, slots := 0, locals := 23 }) (va_Pc [.ref (ad 7), .int a1] (wPre (dC, dI) cy (wG (cC cy ad τ) ad (182 + 6 * nb) σ) sz)) (va_Qi (fun (r : Int32) (_ : Unit) => r = r0) (fun (_ : Unit) t => wAt (dC, dI) (va_A (wG (cC cy ad τ) ad (182 + 6 * nb) σ) sz) (wG (cC cy ad τ) ad (182 + 6 * nb) σ) t) (va_A (wG (cC cy ad τ) ad (182 + 6 * nb) σ) sz)) 0 0 (va_A (wG (cC cy ad τ) ad (182 + 6 * nb) σ) sz) := by
  refine Met.ofW (cc := cX2_counting) (maxL := 3) (ret := (some .int)) (by decide) rfl ?_
  intro p e s m args below meth c s₁ B hml hv
  obtain ⟨rfl, hsz, hP, hK, hD0, hN⟩ := hv
  have hx := B.exec
  have hb := B.bytes
  have hr := B.returns
  have hts := atoms_spec (ws := wsX2_counting) B.pre
  have hown : s.vm.findClass RX2 = some m.cls := findClass_of_methodNamed B.named
  have hlocks := B.notSynchronized
  subst hsz
  have hD := hD0.self (sz := s.heap.size)
  generalize hAe : va_A (wG (cC cy ad τ) ad (182 + 6 * nb) σ) s.heap.size = A at hD ⊢
  have hA : ∀ q : Nat, s.heap.size ≤ q → A q := fun q h => by rw [← hAe]; exact Or.inr h
  have hS : va_S A s.heap s.heap [] := va_S.rf
  have hl := lv_entry ([.ref (ad 7), .int a1]) (n := 3) (Nat.le_of_ble_eq_true rfl)
  rw [lg_entry_eq]
  generalize (lg_sl ([.ref (ad 7), .int a1]) ++ List.replicate (3 - (lg_sl ([.ref (ad 7), .int a1])).length) Slot.unset).toArray = ls at hl ⊢
  have hl : lv_has ls 3 [(0, .ref (ad 7)), (1, .int a1)] := hl
  unfold fX2_counting at h
  clear hAe hD0
  suffices HH : ∀ (H : Heap) (locs : List Loc) (ls : Array Slot), fX2_counting_0 τ σ a1 = some r0 → va_P (dC, dI) vwCl (wG (cC cy ad τ) ad (182 + 6 * nb) σ) H → va_D A (wG (cC cy ad τ) ad (182 + 6 * nb) σ) → va_S A s.heap H locs → lv_has ls 3 [(0, .ref (ad 7)), (1, .int a1)] → W p l e (headSpec wsX2_counting ({ frames := 1, cells := 0, slots := 0, locals := 23 })).room s m (#[.ref (ad 7), .int a1]) below meth c H locs 0 0 (MQ below (va_Qi (fun (r : Int32) (_ : Unit) => r = r0) (fun (_ : Unit) t => wAt (dC, dI) A (wG (cC cy ad τ) ad (182 + 6 * nb) σ) t) A) (#[.ref (ad 7), .int a1]) s 0 0 A) (F0 m 0 ls []) from HH s.heap [] ls h hP hD hS hl
  have w26 : ∀ (σ : S2) (x1 : Int32) (s0 : Int32) (H : Heap) (locs : List Loc) (ls : Array Slot), fX2_counting_26 τ σ x1 s0 = some r0 → va_P (dC, dI) vwCl (wG (cC cy ad τ) ad (182 + 6 * nb) σ) H → va_D A (wG (cC cy ad τ) ad (182 + 6 * nb) σ) → va_S A s.heap H locs → lv_has ls 3 [(0, .ref (ad 7)), (1, .int x1)] → W p l e (headSpec wsX2_counting ({ frames := 1, cells := 0, slots := 0, locals := 23 })).room s m (#[.ref (ad 7), .int a1]) below meth c H locs 0 0 (MQ below (va_Qi (fun (r : Int32) (_ : Unit) => r = r0) (fun (_ : Unit) t => wAt (dC, dI) A (wG (cC cy ad τ) ad (182 + 6 * nb) σ) t) A) (#[.ref (ad 7), .int a1]) s 0 0 A) (F0 m 26 ls [.int s0]) := by
    intro σ x1 s0 H locs ls h hP hD hS hl
    unfold fX2_counting_26 at h
    refine lv_istore_n (lv' := [(2, .int s0), (0, .ref (ad 7)), (1, .int x1)]) hx hb dX2_counting_26 rfl hl (by decide) rfl (fun ls hl => ?_)
    have hl := lv_sub hl [1, 2, 0] (l' := [(0, .ref (ad 7)), (1, .int x1), (2, .int s0)]) rfl
    refine lv_iload_n hx hb dX2_counting_27 rfl (lv_at hl 2 rfl) ?_
    refine lv_if_eq (tgt := 42) hx hb dX2_counting_28 (by decide) (fun hcd => ?_) (fun hcd => ?_)
    · have h := cdP hcd h
      refine lv_aload_n hx hb dX2_counting_42 rfl (lv_at hl 0 rfl) ?_
      refine ux_get (D := (dC, dI)) (ci := 2) (v := .ref (ad 10)) (C := RX2) (T := TX2) (M := 6) (fs := (oKP ad (σ.1 7))) hx hb hts (fun _ h9 => List.mem_cons_of_mem _ (List.mem_append_right _ h9)) hown hK hP 7 (Nat.lt_of_lt_of_le (Nat.le_of_ble_eq_true rfl : 7 < 182) (Nat.le_add_right _ _)) (cC_7 _ _ _ _ _) rfl 2 (by decide) (hts (.fieldLink RX2 18 "SeatsRound$Keepers" "strength" "[I") (List.mem_of_getElem? (i := 2) rfl)) (fun _ h9 => h9) rfl dX2_counting_43 ?_
      refine lv_iload_n hx hb dX2_counting_46 rfl (lv_at hl 1 rfl) ?_
      refine ux_iald hx hb hK hP 10 0 (Nat.lt_of_lt_of_le (Nat.le_of_ble_eq_true rfl : 10 < 182) (Nat.le_add_right _ _)) (cC_10 _ _ _ _ _) rfl h dX2_counting_47 (fun v1 h => ?_)
      exact ux_iretP hx hb hr h hP hD hS hlocks dX2_counting_48
    · have h := cdN hcd h
      refine lv_iconst (v := 2) hx hb dX2_counting_31 (by decide) ?_
      refine lv_aload_n hx hb dX2_counting_32 rfl (lv_at hl 0 rfl) ?_
      refine ux_get (D := (dC, dI)) (ci := 2) (v := .ref (ad 10)) (C := RX2) (T := TX2) (M := 6) (fs := (oKP ad (σ.1 7))) hx hb hts (fun _ h9 => List.mem_cons_of_mem _ (List.mem_append_right _ h9)) hown hK hP 7 (Nat.lt_of_lt_of_le (Nat.le_of_ble_eq_true rfl : 7 < 182) (Nat.le_add_right _ _)) (cC_7 _ _ _ _ _) rfl 2 (by decide) (hts (.fieldLink RX2 18 "SeatsRound$Keepers" "strength" "[I") (List.mem_of_getElem? (i := 2) rfl)) (fun _ h9 => h9) rfl dX2_counting_33 ?_
      refine lv_iload_n hx hb dX2_counting_36 rfl (lv_at hl 1 rfl) ?_
      refine ux_iald hx hb hK hP 10 0 (Nat.lt_of_lt_of_le (Nat.le_of_ble_eq_true rfl : 10 < 182) (Nat.le_add_right _ _)) (cC_10 _ _ _ _ _) rfl h dX2_counting_37 (fun v2 h => ?_)
      refine lv_imul hx hb dX2_counting_38 ?_
      refine lv_goto (tgt := 48) hx hb dX2_counting_39 (by decide) ?_
      exact ux_iretP hx hb hr h hP hD hS hlocks dX2_counting_48
  have w21 : ∀ (σ : S2) (x1 : Int32) (H : Heap) (locs : List Loc) (ls : Array Slot), fX2_counting_21 τ σ x1 = some r0 → va_P (dC, dI) vwCl (wG (cC cy ad τ) ad (182 + 6 * nb) σ) H → va_D A (wG (cC cy ad τ) ad (182 + 6 * nb) σ) → va_S A s.heap H locs → lv_has ls 3 [(0, .ref (ad 7)), (1, .int x1)] → W p l e (headSpec wsX2_counting ({ frames := 1, cells := 0, slots := 0, locals := 23 })).room s m (#[.ref (ad 7), .int a1]) below meth c H locs 0 0 (MQ below (va_Qi (fun (r : Int32) (_ : Unit) => r = r0) (fun (_ : Unit) t => wAt (dC, dI) A (wG (cC cy ad τ) ad (182 + 6 * nb) σ) t) A) (#[.ref (ad 7), .int a1]) s 0 0 A) (F0 m 21 ls []) := by
    intro σ x1 H locs ls h hP hD hS hl
    unfold fX2_counting_21 at h
    refine lv_iconst (v := 1) hx hb dX2_counting_21 (by decide) ?_
    refine lv_goto (tgt := 26) hx hb dX2_counting_22 (by decide) ?_
    exact w26 σ x1 1 H locs ls h hP hD hS hl
  have w0 : ∀ (σ : S2) (x1 : Int32) (H : Heap) (locs : List Loc) (ls : Array Slot), fX2_counting_0 τ σ x1 = some r0 → va_P (dC, dI) vwCl (wG (cC cy ad τ) ad (182 + 6 * nb) σ) H → va_D A (wG (cC cy ad τ) ad (182 + 6 * nb) σ) → va_S A s.heap H locs → lv_has ls 3 [(0, .ref (ad 7)), (1, .int x1)] → W p l e (headSpec wsX2_counting ({ frames := 1, cells := 0, slots := 0, locals := 23 })).room s m (#[.ref (ad 7), .int a1]) below meth c H locs 0 0 (MQ below (va_Qi (fun (r : Int32) (_ : Unit) => r = r0) (fun (_ : Unit) t => wAt (dC, dI) A (wG (cC cy ad τ) ad (182 + 6 * nb) σ) t) A) (#[.ref (ad 7), .int a1]) s 0 0 A) (F0 m 0 ls []) := by
    intro σ x1 H locs ls h hP hD hS hl
    unfold fX2_counting_0 at h
    refine lv_aload_n hx hb dX2_counting_0 rfl (lv_at hl 0 rfl) ?_
    refine ux_get (D := (dC, dI)) (ci := 2) (v := .ref (ad 8)) (C := RX2) (T := TX2) (M := 6) (fs := (oKP ad (σ.1 7))) hx hb hts (fun _ h9 => List.mem_cons_of_mem _ (List.mem_append_right _ h9)) hown hK hP 7 (Nat.lt_of_lt_of_le (Nat.le_of_ble_eq_true rfl : 7 < 182) (Nat.le_add_right _ _)) (cC_7 _ _ _ _ _) rfl 0 (by decide) (hts (.fieldLink RX2 9 "SeatsRound$Keepers" "kind" "[I") (List.mem_of_getElem? (i := 1) rfl)) (fun _ h9 => h9) rfl dX2_counting_1 ?_
    refine lv_iload_n hx hb dX2_counting_4 rfl (lv_at hl 1 rfl) ?_
    refine ux_iald hx hb hK hP 8 0 (Nat.lt_of_lt_of_le (Nat.le_of_ble_eq_true rfl : 8 < 182) (Nat.le_add_right _ _)) (cC_8 _ _ _ _ _) rfl h dX2_counting_5 (fun v3 h => ?_)
    refine lv_iconst (v := 1) hx hb dX2_counting_6 (by decide) ?_
    refine lv_icmp_eq (tgt := 21) hx hb dX2_counting_7 (by decide) (fun hcd => ?_) (fun hcd => ?_)
    · have h := cdP hcd h
      exact w21 σ x1 H locs ls h hP hD hS hl
    · have h := cdN hcd h
      refine lv_aload_n hx hb dX2_counting_10 rfl (lv_at hl 0 rfl) ?_
      refine ux_get (D := (dC, dI)) (ci := 2) (v := .ref (ad 8)) (C := RX2) (T := TX2) (M := 6) (fs := (oKP ad (σ.1 7))) hx hb hts (fun _ h9 => List.mem_cons_of_mem _ (List.mem_append_right _ h9)) hown hK hP 7 (Nat.lt_of_lt_of_le (Nat.le_of_ble_eq_true rfl : 7 < 182) (Nat.le_add_right _ _)) (cC_7 _ _ _ _ _) rfl 0 (by decide) (hts (.fieldLink RX2 9 "SeatsRound$Keepers" "kind" "[I") (List.mem_of_getElem? (i := 1) rfl)) (fun _ h9 => h9) rfl dX2_counting_11 ?_
      refine lv_iload_n hx hb dX2_counting_14 rfl (lv_at hl 1 rfl) ?_
      refine ux_iald hx hb hK hP 8 0 (Nat.lt_of_lt_of_le (Nat.le_of_ble_eq_true rfl : 8 < 182) (Nat.le_add_right _ _)) (cC_8 _ _ _ _ _) rfl h dX2_counting_15 (fun v4 h => ?_)
      refine lv_bipush (v := 6) hx hb dX2_counting_16 (by decide) ?_
      refine lv_icmp_ne (tgt := 25) hx hb dX2_counting_18 (by decide) (fun hcd => ?_) (fun hcd => ?_)
      · have h := cdN hcd h
        refine lv_iconst (v := 0) hx hb dX2_counting_25 (by decide) ?_
        exact w26 σ x1 0 H locs ls h hP hD hS hl
      · have h := cdP hcd h
        exact w21 σ x1 H locs ls h hP hD hS hl
  intro H locs ls h hP hD hS hl
  exact w0 σ a1 H locs ls h hP hD hS (lv_sub hl [0, 1] rfl)

set_option maxHeartbeats 4000000 in
set_option maxRecDepth 100000 in
theorem tX2_isUp (l : Launch) (dC : Nat → ClassId) (dI : Nat → Nat → Nat) (cy : Nat → ClassId) (ad : Nat → Nat) (τ nb : Nat) (hτ : τ < nb) (σ : S2) (a1 : Int32) (sz : Nat) (r0 : Int32) (h : fX2_isUp τ σ a1 = some r0) : Met l yX2_isUp wsX2_isUp ({ frames := 1, cells := 0, slots := 0, locals := 23 }) (va_Pc [.ref (ad 7), .int a1] (wPre (dC, dI) cy (wG (cC cy ad τ) ad (182 + 6 * nb) σ) sz)) (va_Qi (fun (r : Int32) (_ : Unit) => r = r0) (fun (_ : Unit) t => wAt (dC, dI) (va_A (wG (cC cy ad τ) ad (182 + 6 * nb) σ) sz) (wG (cC cy ad τ) ad (182 + 6 * nb) σ) t) (va_A (wG (cC cy ad τ) ad (182 + 6 * nb) σ) sz)) 0 0 (va_A (wG (cC cy ad τ) ad (182 + 6 * nb) σ) sz) := by
  refine Met.ofW (cc := cX2_isUp) (maxL := 2) (ret := (some .boolean)) (by decide) rfl ?_
  intro p e s m args below meth c s₁ B hml hv
  obtain ⟨rfl, hsz, hP, hK, hD0, hN⟩ := hv
  have hx := B.exec
  have hb := B.bytes
  have hr := B.returns
  have hts := atoms_spec (ws := wsX2_isUp) B.pre
  have hown : s.vm.findClass RX2 = some m.cls := findClass_of_methodNamed B.named
  have hlocks := B.notSynchronized
  subst hsz
  have hD := hD0.self (sz := s.heap.size)
  generalize hAe : va_A (wG (cC cy ad τ) ad (182 + 6 * nb) σ) s.heap.size = A at hD ⊢
  have hA : ∀ q : Nat, s.heap.size ≤ q → A q := fun q h => by rw [← hAe]; exact Or.inr h
  have hS : va_S A s.heap s.heap [] := va_S.rf
  have hl := lv_entry ([.ref (ad 7), .int a1]) (n := 2) (Nat.le_of_ble_eq_true rfl)
  rw [lg_entry_eq]
  generalize (lg_sl ([.ref (ad 7), .int a1]) ++ List.replicate (2 - (lg_sl ([.ref (ad 7), .int a1])).length) Slot.unset).toArray = ls at hl ⊢
  have hl : lv_has ls 2 [(0, .ref (ad 7)), (1, .int a1)] := hl
  unfold fX2_isUp at h
  clear hAe hD0
  suffices HH : ∀ (H : Heap) (locs : List Loc) (ls : Array Slot), fX2_isUp_0 τ σ a1 = some r0 → va_P (dC, dI) vwCl (wG (cC cy ad τ) ad (182 + 6 * nb) σ) H → va_D A (wG (cC cy ad τ) ad (182 + 6 * nb) σ) → va_S A s.heap H locs → lv_has ls 2 [(0, .ref (ad 7)), (1, .int a1)] → W p l e (headSpec wsX2_isUp ({ frames := 1, cells := 0, slots := 0, locals := 23 })).room s m (#[.ref (ad 7), .int a1]) below meth c H locs 0 0 (MQ below (va_Qi (fun (r : Int32) (_ : Unit) => r = r0) (fun (_ : Unit) t => wAt (dC, dI) A (wG (cC cy ad τ) ad (182 + 6 * nb) σ) t) A) (#[.ref (ad 7), .int a1]) s 0 0 A) (F0 m 0 ls []) from HH s.heap [] ls h hP hD hS hl
  have w0 : ∀ (σ : S2) (x1 : Int32) (H : Heap) (locs : List Loc) (ls : Array Slot), fX2_isUp_0 τ σ x1 = some r0 → va_P (dC, dI) vwCl (wG (cC cy ad τ) ad (182 + 6 * nb) σ) H → va_D A (wG (cC cy ad τ) ad (182 + 6 * nb) σ) → va_S A s.heap H locs → lv_has ls 2 [(0, .ref (ad 7)), (1, .int x1)] → W p l e (headSpec wsX2_isUp ({ frames := 1, cells := 0, slots := 0, locals := 23 })).room s m (#[.ref (ad 7), .int a1]) below meth c H locs 0 0 (MQ below (va_Qi (fun (r : Int32) (_ : Unit) => r = r0) (fun (_ : Unit) t => wAt (dC, dI) A (wG (cC cy ad τ) ad (182 + 6 * nb) σ) t) A) (#[.ref (ad 7), .int a1]) s 0 0 A) (F0 m 0 ls []) := by
    intro σ x1 H locs ls h hP hD hS hl
    unfold fX2_isUp_0 at h
    refine lv_aload_n hx hb dX2_isUp_0 rfl (lv_at hl 0 rfl) ?_
    refine ux_get (D := (dC, dI)) (ci := 2) (v := .ref (ad 12)) (C := RX2) (T := TX2) (M := 6) (fs := (oKP ad (σ.1 7))) hx hb hts (fun _ h9 => List.mem_cons_of_mem _ (List.mem_append_right _ h9)) hown hK hP 7 (Nat.lt_of_lt_of_le (Nat.le_of_ble_eq_true rfl : 7 < 182) (Nat.le_add_right _ _)) (cC_7 _ _ _ _ _) rfl 4 (by decide) (hts (.fieldLink RX2 24 "SeatsRound$Keepers" "fallen" "[Z") (List.mem_of_getElem? (i := 1) rfl)) (fun _ h9 => h9) rfl dX2_isUp_1 ?_
    refine lv_iload_n hx hb dX2_isUp_4 rfl (lv_at hl 1 rfl) ?_
    refine ux_zald hx hb hK hP 12 2 (Nat.lt_of_lt_of_le (Nat.le_of_ble_eq_true rfl : 12 < 182) (Nat.le_add_right _ _)) (cC_12 _ _ _ _ _) rfl h dX2_isUp_5 (fun v1 h => ?_)
    refine lv_if_ne (tgt := 23) hx hb dX2_isUp_6 (by decide) (fun hcd => ?_) (fun hcd => ?_)
    · have h := cdN hcd h
      refine lv_iconst (v := 0) hx hb dX2_isUp_23 (by decide) ?_
      exact ux_zretP hx hb hr rfl h hP hD hS hlocks dX2_isUp_24
    · have h := cdP hcd h
      refine lv_aload_n hx hb dX2_isUp_9 rfl (lv_at hl 0 rfl) ?_
      refine ux_get (D := (dC, dI)) (ci := 2) (v := .ref (ad 8)) (C := RX2) (T := TX2) (M := 6) (fs := (oKP ad (σ.1 7))) hx hb hts (fun _ h9 => List.mem_cons_of_mem _ (List.mem_append_right _ h9)) hown hK hP 7 (Nat.lt_of_lt_of_le (Nat.le_of_ble_eq_true rfl : 7 < 182) (Nat.le_add_right _ _)) (cC_7 _ _ _ _ _) rfl 0 (by decide) (hts (.fieldLink RX2 9 "SeatsRound$Keepers" "kind" "[I") (List.mem_of_getElem? (i := 2) rfl)) (fun _ h9 => h9) rfl dX2_isUp_10 ?_
      refine lv_iload_n hx hb dX2_isUp_13 rfl (lv_at hl 1 rfl) ?_
      refine ux_iald hx hb hK hP 8 0 (Nat.lt_of_lt_of_le (Nat.le_of_ble_eq_true rfl : 8 < 182) (Nat.le_add_right _ _)) (cC_8 _ _ _ _ _) rfl h dX2_isUp_14 (fun v2 h => ?_)
      refine lv_iconst (v := 4) hx hb dX2_isUp_15 (by decide) ?_
      refine lv_icmp_eq (tgt := 23) hx hb dX2_isUp_16 (by decide) (fun hcd => ?_) (fun hcd => ?_)
      · have h := cdP hcd h
        refine lv_iconst (v := 0) hx hb dX2_isUp_23 (by decide) ?_
        exact ux_zretP hx hb hr rfl h hP hD hS hlocks dX2_isUp_24
      · have h := cdN hcd h
        refine lv_iconst (v := 1) hx hb dX2_isUp_19 (by decide) ?_
        refine lv_goto (tgt := 24) hx hb dX2_isUp_20 (by decide) ?_
        exact ux_zretP hx hb hr rfl h hP hD hS hlocks dX2_isUp_24
  intro H locs ls h hP hD hS hl
  exact w0 σ a1 H locs ls h hP hD hS (lv_sub hl [0, 1] rfl)

set_option maxHeartbeats 4000000 in
set_option maxRecDepth 100000 in
theorem tJ6_bitCount_0f7a4 (l : Launch) (dC : Nat → ClassId) (dI : Nat → Nat → Nat) (cy : Nat → ClassId) (ad : Nat → Nat) (τ nb : Nat) (hτ : τ < nb) (σ : S2) (a0 : Int32) (sz : Nat) (r0 : Int32) (h : fJ6_bitCount_0f7a4 τ σ a0 = some r0) : Met l yJ6_bitCount_0f7a4 wsJ6_bitCount_0f7a4 ({ frames := 1, cells := 0, slots := 0, locals := 23 }) (va_Pc [.int a0] (wPre (dC, dI) cy (wG (cC cy ad τ) ad (182 + 6 * nb) σ) sz)) (va_Qi (fun (r : Int32) (_ : Unit) => r = r0) (fun (_ : Unit) t => wAt (dC, dI) (va_A (wG (cC cy ad τ) ad (182 + 6 * nb) σ) sz) (wG (cC cy ad τ) ad (182 + 6 * nb) σ) t) (va_A (wG (cC cy ad τ) ad (182 + 6 * nb) σ) sz)) 0 0 (va_A (wG (cC cy ad τ) ad (182 + 6 * nb) σ) sz) := by
  refine Met.ofW (cc := cJ6_bitCount_0f7a4) (maxL := 1) (ret := (some .int)) (by decide) rfl ?_
  intro p e s m args below meth c s₁ B hml hv
  obtain ⟨rfl, hsz, hP, hK, hD0, hN⟩ := hv
  have hx := B.exec
  have hb := B.bytes
  have hr := B.returns
  have hts := atoms_spec (ws := wsJ6_bitCount_0f7a4) B.pre
  have hown : s.vm.findClass RJ6 = some m.cls := findClass_of_methodNamed B.named
  have hlocks := B.notSynchronized
  subst hsz
  have hD := hD0.self (sz := s.heap.size)
  generalize hAe : va_A (wG (cC cy ad τ) ad (182 + 6 * nb) σ) s.heap.size = A at hD ⊢
  have hA : ∀ q : Nat, s.heap.size ≤ q → A q := fun q h => by rw [← hAe]; exact Or.inr h
  have hS : va_S A s.heap s.heap [] := va_S.rf
  have hl := lv_entry ([.int a0]) (n := 1) (Nat.le_of_ble_eq_true rfl)
  rw [lg_entry_eq]
  generalize (lg_sl ([.int a0]) ++ List.replicate (1 - (lg_sl ([.int a0])).length) Slot.unset).toArray = ls at hl ⊢
  have hl : lv_has ls 1 [(0, .int a0)] := hl
  unfold fJ6_bitCount_0f7a4 at h
  clear hAe hD0
  suffices HH : ∀ (H : Heap) (locs : List Loc) (ls : Array Slot), fJ6_bitCount_0f7a4_0 τ σ a0 = some r0 → va_P (dC, dI) vwCl (wG (cC cy ad τ) ad (182 + 6 * nb) σ) H → va_D A (wG (cC cy ad τ) ad (182 + 6 * nb) σ) → va_S A s.heap H locs → lv_has ls 1 [(0, .int a0)] → W p l e (headSpec wsJ6_bitCount_0f7a4 ({ frames := 1, cells := 0, slots := 0, locals := 23 })).room s m (#[.int a0]) below meth c H locs 0 0 (MQ below (va_Qi (fun (r : Int32) (_ : Unit) => r = r0) (fun (_ : Unit) t => wAt (dC, dI) A (wG (cC cy ad τ) ad (182 + 6 * nb) σ) t) A) (#[.int a0]) s 0 0 A) (F0 m 0 ls []) from HH s.heap [] ls h hP hD hS hl
  have w0 : ∀ (σ : S2) (x0 : Int32) (H : Heap) (locs : List Loc) (ls : Array Slot), fJ6_bitCount_0f7a4_0 τ σ x0 = some r0 → va_P (dC, dI) vwCl (wG (cC cy ad τ) ad (182 + 6 * nb) σ) H → va_D A (wG (cC cy ad τ) ad (182 + 6 * nb) σ) → va_S A s.heap H locs → lv_has ls 1 [(0, .int x0)] → W p l e (headSpec wsJ6_bitCount_0f7a4 ({ frames := 1, cells := 0, slots := 0, locals := 23 })).room s m (#[.int a0]) below meth c H locs 0 0 (MQ below (va_Qi (fun (r : Int32) (_ : Unit) => r = r0) (fun (_ : Unit) t => wAt (dC, dI) A (wG (cC cy ad τ) ad (182 + 6 * nb) σ) t) A) (#[.int a0]) s 0 0 A) (F0 m 0 ls []) := by
    intro σ x0 H locs ls h hP hD hS hl
    unfold fJ6_bitCount_0f7a4_0 at h
    refine lv_iload_n hx hb dJ6_bitCount_0f7a4_0 rfl (lv_at hl 0 rfl) ?_
    refine lv_iload_n hx hb dJ6_bitCount_0f7a4_1 rfl (lv_at hl 0 rfl) ?_
    refine lv_iconst (v := 1) hx hb dJ6_bitCount_0f7a4_2 (by decide) ?_
    refine lv_iushr hx hb dJ6_bitCount_0f7a4_3 rfl ?_
    refine lv_ldcw hx hb hown (hts (.constant RJ6 265 (1431655765)) (List.mem_of_getElem? (i := 1) rfl)) dJ6_bitCount_0f7a4_4 ?_
    refine lv_iand hx hb dJ6_bitCount_0f7a4_7 ?_
    refine lv_isub hx hb dJ6_bitCount_0f7a4_8 ?_
    refine lv_topi (fun v1 ev1 => ?_)
    have h := nmS h ev1
    refine lv_istore_n (lv' := [(0, .int v1)]) hx hb dJ6_bitCount_0f7a4_9 rfl hl (by decide) rfl (fun ls hl => ?_)
    change W _ _ _ _ _ _ _ _ _ _ _ _ _ _ _ (F0 m 10 ls [])
    refine lv_iload_n hx hb dJ6_bitCount_0f7a4_10 rfl (lv_at hl 0 rfl) ?_
    refine lv_ldcw hx hb hown (hts (.constant RJ6 266 (858993459)) (List.mem_of_getElem? (i := 2) rfl)) dJ6_bitCount_0f7a4_11 ?_
    refine lv_iand hx hb dJ6_bitCount_0f7a4_14 ?_
    refine lv_iload_n hx hb dJ6_bitCount_0f7a4_15 rfl (lv_at hl 0 rfl) ?_
    refine lv_iconst (v := 2) hx hb dJ6_bitCount_0f7a4_16 (by decide) ?_
    refine lv_iushr hx hb dJ6_bitCount_0f7a4_17 rfl ?_
    refine lv_ldcw hx hb hown (hts (.constant RJ6 266 (858993459)) (List.mem_of_getElem? (i := 2) rfl)) dJ6_bitCount_0f7a4_18 ?_
    refine lv_iand hx hb dJ6_bitCount_0f7a4_21 ?_
    change W _ _ _ _ _ _ _ _ _ _ _ _ _ _ _ (F0 m 22 ls [.int ((UInt32.toInt32 (Int32.toUInt32 v1 >>> (Int32.toUInt32 2 &&& Int32.toUInt32 31))) &&& 858993459), .int (v1 &&& 858993459)])
    refine lv_iadd hx hb dJ6_bitCount_0f7a4_22 ?_
    refine lv_topi (fun v2 ev2 => ?_)
    have h := nmS h ev2
    refine lv_istore_n (lv' := [(0, .int v2)]) hx hb dJ6_bitCount_0f7a4_23 rfl hl (by decide) rfl (fun ls hl => ?_)
    refine lv_iload_n hx hb dJ6_bitCount_0f7a4_24 rfl (lv_at hl 0 rfl) ?_
    refine lv_iload_n hx hb dJ6_bitCount_0f7a4_25 rfl (lv_at hl 0 rfl) ?_
    refine lv_iconst (v := 4) hx hb dJ6_bitCount_0f7a4_26 (by decide) ?_
    refine lv_iushr hx hb dJ6_bitCount_0f7a4_27 rfl ?_
    refine lv_iadd hx hb dJ6_bitCount_0f7a4_28 ?_
    refine lv_ldcw hx hb hown (hts (.constant RJ6 267 (252645135)) (List.mem_of_getElem? (i := 3) rfl)) dJ6_bitCount_0f7a4_29 ?_
    refine lv_iand hx hb dJ6_bitCount_0f7a4_32 ?_
    refine lv_topi (fun v3 ev3 => ?_)
    have h := nmS h ev3
    refine lv_istore_n (lv' := [(0, .int v3)]) hx hb dJ6_bitCount_0f7a4_33 rfl hl (by decide) rfl (fun ls hl => ?_)
    change W _ _ _ _ _ _ _ _ _ _ _ _ _ _ _ (F0 m 34 ls [])
    refine lv_iload_n hx hb dJ6_bitCount_0f7a4_34 rfl (lv_at hl 0 rfl) ?_
    refine lv_iload_n hx hb dJ6_bitCount_0f7a4_35 rfl (lv_at hl 0 rfl) ?_
    refine lv_bipush (v := 8) hx hb dJ6_bitCount_0f7a4_36 (by decide) ?_
    refine lv_iushr hx hb dJ6_bitCount_0f7a4_38 rfl ?_
    refine lv_iadd hx hb dJ6_bitCount_0f7a4_39 ?_
    refine lv_topi (fun v4 ev4 => ?_)
    have h := nmS h ev4
    refine lv_istore_n (lv' := [(0, .int v4)]) hx hb dJ6_bitCount_0f7a4_40 rfl hl (by decide) rfl (fun ls hl => ?_)
    refine lv_iload_n hx hb dJ6_bitCount_0f7a4_41 rfl (lv_at hl 0 rfl) ?_
    refine lv_iload_n hx hb dJ6_bitCount_0f7a4_42 rfl (lv_at hl 0 rfl) ?_
    refine lv_bipush (v := 16) hx hb dJ6_bitCount_0f7a4_43 (by decide) ?_
    refine lv_iushr hx hb dJ6_bitCount_0f7a4_45 rfl ?_
    refine lv_iadd hx hb dJ6_bitCount_0f7a4_46 ?_
    refine lv_topi (fun v5 ev5 => ?_)
    have h := nmS h ev5
    refine lv_istore_n (lv' := [(0, .int v5)]) hx hb dJ6_bitCount_0f7a4_47 rfl hl (by decide) rfl (fun ls hl => ?_)
    refine lv_iload_n hx hb dJ6_bitCount_0f7a4_48 rfl (lv_at hl 0 rfl) ?_
    refine lv_bipush (v := 63) hx hb dJ6_bitCount_0f7a4_49 (by decide) ?_
    refine lv_iand hx hb dJ6_bitCount_0f7a4_51 ?_
    exact ux_iretP hx hb hr h hP hD hS hlocks dJ6_bitCount_0f7a4_52
  intro H locs ls h hP hD hS hl
  exact w0 σ a0 H locs ls h hP hD hS (lv_sub hl [0] rfl)

set_option maxHeartbeats 4000000 in
set_option maxRecDepth 100000 in
theorem tX3_look (l : Launch) (dC : Nat → ClassId) (dI : Nat → Nat → Nat) (cy : Nat → ClassId) (ad : Nat → Nat) (τ nb : Nat) (hτ : τ < nb) (σ : S2)  (sz : Nat) (r0 : Unit) (σ9 : S2) (h : fX3_look τ σ = some (r0, σ9)) : Met l yX3_look wsX3_look ({ frames := 2, cells := 0, slots := 0, locals := 43 }) (va_Pc [.ref (ad 13), .ref (ad 182), .ref (ad 7)] (wPre (dC, dI) cy (wG (cC cy ad τ) ad (182 + 6 * nb) σ) sz)) (va_Qv (fun (_ : Unit) => True) (fun (_ : Unit) t => wAt (dC, dI) (va_A (wG (cC cy ad τ) ad (182 + 6 * nb) σ) sz) (wG (cC cy ad τ) ad (182 + 6 * nb) σ9) t) (va_A (wG (cC cy ad τ) ad (182 + 6 * nb) σ) sz)) 0 0 (va_A (wG (cC cy ad τ) ad (182 + 6 * nb) σ) sz) := by
  refine Met.ofW (cc := cX3_look) (maxL := 5) (ret := none) (by decide) rfl ?_
  intro p e s m args below meth c s₁ B hml hv
  obtain ⟨rfl, hsz, hP, hK, hD0, hN⟩ := hv
  have hx := B.exec
  have hb := B.bytes
  have hr := B.returns
  have hts := atoms_spec (ws := wsX3_look) B.pre
  have hown : s.vm.findClass RX3 = some m.cls := findClass_of_methodNamed B.named
  have hlocks := B.notSynchronized
  subst hsz
  have hD := hD0.self (sz := s.heap.size)
  generalize hAe : va_A (wG (cC cy ad τ) ad (182 + 6 * nb) σ) s.heap.size = A at hD ⊢
  have hA : ∀ q : Nat, s.heap.size ≤ q → A q := fun q h => by rw [← hAe]; exact Or.inr h
  have hS : va_S A s.heap s.heap [] := va_S.rf
  have hl := lv_entry ([.ref (ad 13), .ref (ad 182), .ref (ad 7)]) (n := 5) (Nat.le_of_ble_eq_true rfl)
  rw [lg_entry_eq]
  generalize (lg_sl ([.ref (ad 13), .ref (ad 182), .ref (ad 7)]) ++ List.replicate (5 - (lg_sl ([.ref (ad 13), .ref (ad 182), .ref (ad 7)])).length) Slot.unset).toArray = ls at hl ⊢
  have hl : lv_has ls 5 [(0, .ref (ad 13)), (1, .ref (ad 182)), (2, .ref (ad 7))] := hl
  unfold fX3_look at h
  clear hAe hD0
  suffices HH : ∀ (H : Heap) (locs : List Loc) (ls : Array Slot), fX3_look_0 τ σ = some (r0, σ9) → va_P (dC, dI) vwCl (wG (cC cy ad τ) ad (182 + 6 * nb) σ) H → va_D A (wG (cC cy ad τ) ad (182 + 6 * nb) σ) → va_S A s.heap H locs → lv_has ls 5 [(0, .ref (ad 13)), (1, .ref (ad 182)), (2, .ref (ad 7))] → W p l e (headSpec wsX3_look ({ frames := 2, cells := 0, slots := 0, locals := 43 })).room s m (#[.ref (ad 13), .ref (ad 182), .ref (ad 7)]) below meth c H locs 0 0 (MQ below (va_Qv (fun (_ : Unit) => True) (fun (_ : Unit) t => wAt (dC, dI) A (wG (cC cy ad τ) ad (182 + 6 * nb) σ9) t) A) (#[.ref (ad 13), .ref (ad 182), .ref (ad 7)]) s 0 0 A) (F0 m 0 ls []) from HH s.heap [] ls h hP hD hS hl
  have w94 : ∀ (k26 : S2 → Int32 → Int32 → Option (Unit × S2)) (hk26 : ∀ (σ : S2) (x3 : Int32) (x4 : Int32) (H : Heap) (locs : List Loc) (ls : Array Slot), k26 σ x3 x4 = some (r0, σ9) → va_P (dC, dI) vwCl (wG (cC cy ad τ) ad (182 + 6 * nb) σ) H → va_D A (wG (cC cy ad τ) ad (182 + 6 * nb) σ) → va_S A s.heap H locs → lv_has ls 5 [(0, .ref (ad 13)), (1, .ref (ad 182)), (2, .ref (ad 7)), (3, .int x3), (4, .int x4)] → W p l e (headSpec wsX3_look ({ frames := 2, cells := 0, slots := 0, locals := 43 })).room s m (#[.ref (ad 13), .ref (ad 182), .ref (ad 7)]) below meth c H locs 0 0 (MQ below (va_Qv (fun (_ : Unit) => True) (fun (_ : Unit) t => wAt (dC, dI) A (wG (cC cy ad τ) ad (182 + 6 * nb) σ9) t) A) (#[.ref (ad 13), .ref (ad 182), .ref (ad 7)]) s 0 0 A) (F0 m 26 ls [])) , ∀ (σ : S2) (x3 : Int32) (x4 : Int32) (H : Heap) (locs : List Loc) (ls : Array Slot), fX3_look_94 τ k26 σ x3 x4 = some (r0, σ9) → va_P (dC, dI) vwCl (wG (cC cy ad τ) ad (182 + 6 * nb) σ) H → va_D A (wG (cC cy ad τ) ad (182 + 6 * nb) σ) → va_S A s.heap H locs → lv_has ls 5 [(0, .ref (ad 13)), (1, .ref (ad 182)), (2, .ref (ad 7)), (3, .int x3), (4, .int x4)] → W p l e (headSpec wsX3_look ({ frames := 2, cells := 0, slots := 0, locals := 43 })).room s m (#[.ref (ad 13), .ref (ad 182), .ref (ad 7)]) below meth c H locs 0 0 (MQ below (va_Qv (fun (_ : Unit) => True) (fun (_ : Unit) t => wAt (dC, dI) A (wG (cC cy ad τ) ad (182 + 6 * nb) σ9) t) A) (#[.ref (ad 13), .ref (ad 182), .ref (ad 7)]) s 0 0 A) (F0 m 94 ls []) := by
    intro k26 hk26 σ x3 x4 H locs ls h hP hD hS hl
    unfold fX3_look_94 at h
    obtain ⟨v1, ev1⟩ : ∃ y : Int32, y = x4 + 1 := ⟨_, rfl⟩
    have h := nmS h ev1
    refine lv_iinc (v := v1) (lv' := [(4, .int v1), (0, .ref (ad 13)), (1, .ref (ad 182)), (2, .ref (ad 7)), (3, .int x3)]) hx hb dX3_look_94 hl (k := 4) rfl (by rw [ev1]; rfl) (by decide) rfl (fun ls hl => ?_)
    have hl := lv_sub hl [1, 2, 3, 4, 0] (l' := [(0, .ref (ad 13)), (1, .ref (ad 182)), (2, .ref (ad 7)), (3, .int x3), (4, .int v1)]) rfl
    refine lv_goto (tgt := 26) hx hb dX3_look_97 (by decide) ?_
    exact hk26 σ x3 v1 H locs ls h hP hD hS hl
  have w26 : ∀ (n : Nat), ∀ (σ : S2) (x3 : Int32) (x4 : Int32) (H : Heap) (locs : List Loc) (ls : Array Slot), fX3_look_26 τ n σ x3 x4 = some (r0, σ9) → va_P (dC, dI) vwCl (wG (cC cy ad τ) ad (182 + 6 * nb) σ) H → va_D A (wG (cC cy ad τ) ad (182 + 6 * nb) σ) → va_S A s.heap H locs → lv_has ls 5 [(0, .ref (ad 13)), (1, .ref (ad 182)), (2, .ref (ad 7)), (3, .int x3), (4, .int x4)] → W p l e (headSpec wsX3_look ({ frames := 2, cells := 0, slots := 0, locals := 43 })).room s m (#[.ref (ad 13), .ref (ad 182), .ref (ad 7)]) below meth c H locs 0 0 (MQ below (va_Qv (fun (_ : Unit) => True) (fun (_ : Unit) t => wAt (dC, dI) A (wG (cC cy ad τ) ad (182 + 6 * nb) σ9) t) A) (#[.ref (ad 13), .ref (ad 182), .ref (ad 7)]) s 0 0 A) (F0 m 26 ls []) := by
    intro n
    induction n with
    | zero => intro σ x3 x4 H locs ls h; cases h
    | succ n ih =>
    intro σ x3 x4 H locs ls h hP hD hS hl
    unfold fX3_look_26 at h
    refine lv_iload hx hb dX3_look_26 (lv_at hl 4 rfl) ?_
    refine lv_bipush (v := 12) hx hb dX3_look_28 (by decide) ?_
    refine lv_icmp_ge (tgt := 100) hx hb dX3_look_30 (by decide) (fun hcd => ?_) (fun hcd => ?_)
    · have h := cdP hcd h
      refine lv_aload_n hx hb dX3_look_100 rfl (lv_at hl 0 rfl) ?_
      refine lv_iload_n hx hb dX3_look_101 rfl (lv_at hl 3 rfl) ?_
      obtain ⟨r2, hf3, h⟩ := biS h
      refine ux_calli (va_runS (As := [.int x3]) (rest := [.ref (ad 13)]) ⟨hx, hb, hml, hown, hts⟩ (tJ6_bitCount_0f7a4 l dC dI cy ad τ nb hτ σ x3 H.size r2 hf3) (va_cwS 1 hts gX3_look_J6_bitCount_0f7a4 rfl rfl rfl (by decide +kernel) ⟨Nat.le_of_ble_eq_true rfl, Nat.le_of_ble_eq_true rfl⟩) (wp_S hK hN hP hD) rfl rfl hl.1 rfl (lv_room (Nat.le_of_ble_eq_true rfl)) dX3_look_102 ⟨Nat.le_of_ble_eq_true rfl, Nat.le_of_ble_eq_true rfl⟩) hD hS hA (fun H locs hP hD hS => ?_)
      refine ux_put (D := (dC, dI)) (ci := 3) (C := RX3) (T := TX3) (M := 8) (fs := (oLW ad (σ.1 13))) hx hb hts (fun _ h9 => List.mem_cons_of_mem _ (List.mem_append_left _ (List.mem_append_right _ h9))) tyX3 tyX3_ok nmX3 hown hK hP hD hS 13 (Nat.lt_of_lt_of_le (Nat.le_of_ble_eq_true rfl : 13 < 182) (Nat.le_add_right _ _)) (cC_13 _ _ _ _ _) rfl 5 (by decide) (hts (.fieldLink RX3 28 "SeatsRound$Law" "streetsIn" "I") (List.mem_of_getElem? (i := 11) rfl)) (fun _ h9 => h9) rfl (tyX3_ok 5 (by decide)) rfl rfl (Nat.le_of_ble_eq_true rfl) (oC_13_5 _ _ _ _ _ _) h dX3_look_105 (fun σ4 H locs h hP hD hS => ?_)
      exact ux_vret hx hb hr h hP hD hS hlocks dX3_look_108
    · have h := cdN hcd h
      refine lv_aload_n hx hb dX3_look_33 rfl (lv_at hl 1 rfl) ?_
      refine ux_get (D := (dC, dI)) (ci := 8) (v := .int (σ.1 182 0)) (C := RX8) (T := TX8) (M := 13) (fs := (oTB ad (182) (σ.1 (182)))) hx hb hts (fun _ h9 => List.mem_cons_of_mem _ (List.mem_append_left _ (List.mem_append_left _ (List.mem_append_right _ h9)))) hown hK hP 182 (by omega) (cC_t0 _ _ _ _ _ 0) rfl 0 (by decide) (hts (.fieldLink RX3 66 "SeatsRound$Table" "members" "I") (List.mem_of_getElem? (i := 1) rfl)) (fun _ h9 => h9) rfl dX3_look_34 ?_
      refine lv_iload hx hb dX3_look_37 (lv_at hl 4 rfl) ?_
      refine lv_ishr hx hb dX3_look_39 ?_
      refine lv_iconst (v := 1) hx hb dX3_look_40 (by decide) ?_
      refine lv_iand hx hb dX3_look_41 ?_
      refine lv_if_ne (tgt := 48) hx hb dX3_look_42 (by decide) (fun hcd => ?_) (fun hcd => ?_)
      · have h := cdN hcd h
        refine lv_iload_n hx hb dX3_look_48 rfl (lv_at hl 3 rfl) ?_
        refine lv_iconst (v := 1) hx hb dX3_look_49 (by decide) ?_
        refine lv_aload_n hx hb dX3_look_50 rfl (lv_at hl 2 rfl) ?_
        refine ux_get (D := (dC, dI)) (ci := 2) (v := .ref (ad 9)) (C := RX2) (T := TX2) (M := 6) (fs := (oKP ad (σ.1 7))) hx hb hts (fun _ h9 => List.mem_cons_of_mem _ (List.mem_append_right _ h9)) hown hK hP 7 (Nat.lt_of_lt_of_le (Nat.le_of_ble_eq_true rfl : 7 < 182) (Nat.le_add_right _ _)) (cC_7 _ _ _ _ _) rfl 1 (by decide) (hts (.fieldLink RX3 73 "SeatsRound$Keepers" "street" "[I") (List.mem_of_getElem? (i := 5) rfl)) (fun _ h9 => h9) rfl dX3_look_51 ?_
        refine lv_iload hx hb dX3_look_54 (lv_at hl 4 rfl) ?_
        refine ux_iald hx hb hK hP 9 0 (Nat.lt_of_lt_of_le (Nat.le_of_ble_eq_true rfl : 9 < 182) (Nat.le_add_right _ _)) (cC_9 _ _ _ _ _) rfl h dX3_look_56 (fun v5 h => ?_)
        refine lv_ishl hx hb dX3_look_57 ?_
        refine lv_ior hx hb dX3_look_58 ?_
        refine lv_topi (fun v6 ev6 => ?_)
        have h := nmS h ev6
        refine lv_istore_n (lv' := [(3, .int v6), (0, .ref (ad 13)), (1, .ref (ad 182)), (2, .ref (ad 7)), (4, .int x4)]) hx hb dX3_look_59 rfl hl (by decide) rfl (fun ls hl => ?_)
        have hl := lv_sub hl [1, 2, 3, 0, 4] (l' := [(0, .ref (ad 13)), (1, .ref (ad 182)), (2, .ref (ad 7)), (3, .int v6), (4, .int x4)]) rfl
        refine lv_aload_n hx hb dX3_look_60 rfl (lv_at hl 0 rfl) ?_
        refine lv_dup hx hb dX3_look_61 rfl ?_
        refine ux_get (D := (dC, dI)) (ci := 3) (v := .int (σ.1 13 6)) (C := RX3) (T := TX3) (M := 8) (fs := (oLW ad (σ.1 13))) hx hb hts (fun _ h9 => List.mem_cons_of_mem _ (List.mem_append_left _ (List.mem_append_right _ h9))) hown hK hP 13 (Nat.lt_of_lt_of_le (Nat.le_of_ble_eq_true rfl : 13 < 182) (Nat.le_add_right _ _)) (cC_13 _ _ _ _ _) rfl 6 (by decide) (hts (.fieldLink RX3 31 "SeatsRound$Law" "weights" "I") (List.mem_of_getElem? (i := 3) rfl)) (fun _ h9 => h9) rfl dX3_look_62 ?_
        refine lv_aload_n hx hb dX3_look_65 rfl (lv_at hl 1 rfl) ?_
        refine ux_get (D := (dC, dI)) (ci := 8) (v := .ref (ad 183)) (C := RX8) (T := TX8) (M := 13) (fs := (oTB ad (182) (σ.1 (182)))) hx hb hts (fun _ h9 => List.mem_cons_of_mem _ (List.mem_append_left _ (List.mem_append_left _ (List.mem_append_right _ h9)))) hown hK hP 182 (by omega) (cC_t0 _ _ _ _ _ 0) rfl 8 (by decide) (hts (.fieldLink RX3 79 "SeatsRound$Table" "weight" "[I") (List.mem_of_getElem? (i := 6) rfl)) (fun _ h9 => h9) rfl dX3_look_66 ?_
        refine lv_iload hx hb dX3_look_69 (lv_at hl 4 rfl) ?_
        refine ux_iald hx hb hK hP 183 0 (by omega) (cC_t1 _ _ _ _ _ 0) rfl h dX3_look_71 (fun v7 h => ?_)
        refine lv_iadd hx hb dX3_look_72 ?_
        refine ux_put (D := (dC, dI)) (ci := 3) (C := RX3) (T := TX3) (M := 8) (fs := (oLW ad (σ.1 13))) hx hb hts (fun _ h9 => List.mem_cons_of_mem _ (List.mem_append_left _ (List.mem_append_right _ h9))) tyX3 tyX3_ok nmX3 hown hK hP hD hS 13 (Nat.lt_of_lt_of_le (Nat.le_of_ble_eq_true rfl : 13 < 182) (Nat.le_add_right _ _)) (cC_13 _ _ _ _ _) rfl 6 (by decide) (hts (.fieldLink RX3 31 "SeatsRound$Law" "weights" "I") (List.mem_of_getElem? (i := 3) rfl)) (fun _ h9 => h9) rfl (tyX3_ok 6 (by decide)) rfl rfl (Nat.le_of_ble_eq_true rfl) (oC_13_6 _ _ _ _ _ _) h dX3_look_73 (fun σ8 H locs h hP hD hS => ?_)
        refine lv_aload_n hx hb dX3_look_76 rfl (lv_at hl 0 rfl) ?_
        refine lv_aload_n hx hb dX3_look_77 rfl (lv_at hl 0 rfl) ?_
        refine ux_get (D := (dC, dI)) (ci := 3) (v := .int (σ8.1 13 7)) (C := RX3) (T := TX3) (M := 8) (fs := (oLW ad (σ8.1 13))) hx hb hts (fun _ h9 => List.mem_cons_of_mem _ (List.mem_append_left _ (List.mem_append_right _ h9))) hown hK hP 13 (Nat.lt_of_lt_of_le (Nat.le_of_ble_eq_true rfl : 13 < 182) (Nat.le_add_right _ _)) (cC_13 _ _ _ _ _) rfl 7 (by decide) (hts (.fieldLink RX3 34 "SeatsRound$Law" "greatest" "I") (List.mem_of_getElem? (i := 4) rfl)) (fun _ h9 => h9) rfl dX3_look_78 ?_
        refine lv_aload_n hx hb dX3_look_81 rfl (lv_at hl 1 rfl) ?_
        refine ux_get (D := (dC, dI)) (ci := 8) (v := .ref (ad 183)) (C := RX8) (T := TX8) (M := 13) (fs := (oTB ad (182) (σ8.1 (182)))) hx hb hts (fun _ h9 => List.mem_cons_of_mem _ (List.mem_append_left _ (List.mem_append_left _ (List.mem_append_right _ h9)))) hown hK hP 182 (by omega) (cC_t0 _ _ _ _ _ 0) rfl 8 (by decide) (hts (.fieldLink RX3 79 "SeatsRound$Table" "weight" "[I") (List.mem_of_getElem? (i := 6) rfl)) (fun _ h9 => h9) rfl dX3_look_82 ?_
        refine lv_iload hx hb dX3_look_85 (lv_at hl 4 rfl) ?_
        refine ux_iald hx hb hK hP 183 0 (by omega) (cC_t1 _ _ _ _ _ 0) rfl h dX3_look_87 (fun v9 h => ?_)
        refine va_mmax hx hb (hml.trans hl.1.symm) hown (hts (.methodLink RX3 82 Lib.Math.max.name) (List.mem_of_getElem? (i := 7) rfl)) (hts (.static Lib.Math.max.name) (List.mem_of_getElem? (i := 8) rfl)) (hts (.initialized "java/lang/Math") (List.mem_of_getElem? (i := 9) rfl)) (hts (.code Lib.Math.max.name Lib.Math.max.code 2 (some .int)) (List.mem_of_getElem? (i := 10) rfl)) (Nat.le_of_ble_eq_true rfl) (Nat.le_of_ble_eq_true rfl) (Nat.le_of_ble_eq_true rfl) (Nat.le_of_ble_eq_true rfl) dX3_look_88 ?_
        refine ux_put (D := (dC, dI)) (ci := 3) (C := RX3) (T := TX3) (M := 8) (fs := (oLW ad (σ8.1 13))) hx hb hts (fun _ h9 => List.mem_cons_of_mem _ (List.mem_append_left _ (List.mem_append_right _ h9))) tyX3 tyX3_ok nmX3 hown hK hP hD hS 13 (Nat.lt_of_lt_of_le (Nat.le_of_ble_eq_true rfl : 13 < 182) (Nat.le_add_right _ _)) (cC_13 _ _ _ _ _) rfl 7 (by decide) (hts (.fieldLink RX3 34 "SeatsRound$Law" "greatest" "I") (List.mem_of_getElem? (i := 4) rfl)) (fun _ h9 => h9) rfl (tyX3_ok 7 (by decide)) rfl rfl (Nat.le_of_ble_eq_true rfl) (oC_13_7 _ _ _ _ _ _) h dX3_look_91 (fun σ10 H locs h hP hD hS => ?_)
        exact w94 _ ih σ10 v6 x4 H locs ls h hP hD hS hl
      · have h := cdP hcd h
        refine lv_goto (tgt := 94) hx hb dX3_look_45 (by decide) ?_
        exact w94 _ ih σ x3 x4 H locs ls h hP hD hS hl
  have w0 : ∀ (σ : S2)  (H : Heap) (locs : List Loc) (ls : Array Slot), fX3_look_0 τ σ = some (r0, σ9) → va_P (dC, dI) vwCl (wG (cC cy ad τ) ad (182 + 6 * nb) σ) H → va_D A (wG (cC cy ad τ) ad (182 + 6 * nb) σ) → va_S A s.heap H locs → lv_has ls 5 [(0, .ref (ad 13)), (1, .ref (ad 182)), (2, .ref (ad 7))] → W p l e (headSpec wsX3_look ({ frames := 2, cells := 0, slots := 0, locals := 43 })).room s m (#[.ref (ad 13), .ref (ad 182), .ref (ad 7)]) below meth c H locs 0 0 (MQ below (va_Qv (fun (_ : Unit) => True) (fun (_ : Unit) t => wAt (dC, dI) A (wG (cC cy ad τ) ad (182 + 6 * nb) σ9) t) A) (#[.ref (ad 13), .ref (ad 182), .ref (ad 7)]) s 0 0 A) (F0 m 0 ls []) := by
    intro σ H locs ls h hP hD hS hl
    unfold fX3_look_0 at h
    refine lv_iconst (v := 0) hx hb dX3_look_0 (by decide) ?_
    refine lv_istore_n (lv' := [(3, .int 0), (0, .ref (ad 13)), (1, .ref (ad 182)), (2, .ref (ad 7))]) hx hb dX3_look_1 rfl hl (by decide) rfl (fun ls hl => ?_)
    have hl := lv_sub hl [1, 2, 3, 0] (l' := [(0, .ref (ad 13)), (1, .ref (ad 182)), (2, .ref (ad 7)), (3, .int 0)]) rfl
    refine lv_aload_n hx hb dX3_look_2 rfl (lv_at hl 0 rfl) ?_
    refine lv_aload_n hx hb dX3_look_3 rfl (lv_at hl 1 rfl) ?_
    refine ux_get (D := (dC, dI)) (ci := 8) (v := .int (σ.1 182 0)) (C := RX8) (T := TX8) (M := 13) (fs := (oTB ad (182) (σ.1 (182)))) hx hb hts (fun _ h9 => List.mem_cons_of_mem _ (List.mem_append_left _ (List.mem_append_left _ (List.mem_append_right _ h9)))) hown hK hP 182 (by omega) (cC_t0 _ _ _ _ _ 0) rfl 0 (by decide) (hts (.fieldLink RX3 66 "SeatsRound$Table" "members" "I") (List.mem_of_getElem? (i := 1) rfl)) (fun _ h9 => h9) rfl dX3_look_4 ?_
    obtain ⟨r11, hf12, h⟩ := biS h
    refine ux_calli (va_runS (As := [.int (σ.1 182 0)]) (rest := [.ref (ad 13)]) ⟨hx, hb, hml, hown, hts⟩ (tJ6_bitCount_0f7a4 l dC dI cy ad τ nb hτ σ (σ.1 182 0) H.size r11 hf12) (va_cwS 1 hts gX3_look_J6_bitCount_0f7a4 rfl rfl rfl (by decide +kernel) ⟨Nat.le_of_ble_eq_true rfl, Nat.le_of_ble_eq_true rfl⟩) (wp_S hK hN hP hD) rfl rfl hl.1 rfl (lv_room (Nat.le_of_ble_eq_true rfl)) dX3_look_7 ⟨Nat.le_of_ble_eq_true rfl, Nat.le_of_ble_eq_true rfl⟩) hD hS hA (fun H locs hP hD hS => ?_)
    refine ux_put (D := (dC, dI)) (ci := 3) (C := RX3) (T := TX3) (M := 8) (fs := (oLW ad (σ.1 13))) hx hb hts (fun _ h9 => List.mem_cons_of_mem _ (List.mem_append_left _ (List.mem_append_right _ h9))) tyX3 tyX3_ok nmX3 hown hK hP hD hS 13 (Nat.lt_of_lt_of_le (Nat.le_of_ble_eq_true rfl : 13 < 182) (Nat.le_add_right _ _)) (cC_13 _ _ _ _ _) rfl 4 (by decide) (hts (.fieldLink RX3 25 "SeatsRound$Law" "members" "I") (List.mem_of_getElem? (i := 2) rfl)) (fun _ h9 => h9) rfl (tyX3_ok 4 (by decide)) rfl rfl (Nat.le_of_ble_eq_true rfl) (oC_13_4 _ _ _ _ _ _) h dX3_look_10 (fun σ13 H locs h hP hD hS => ?_)
    refine lv_aload_n hx hb dX3_look_13 rfl (lv_at hl 0 rfl) ?_
    refine lv_iconst (v := 0) hx hb dX3_look_14 (by decide) ?_
    refine ux_put (D := (dC, dI)) (ci := 3) (C := RX3) (T := TX3) (M := 8) (fs := (oLW ad (σ13.1 13))) hx hb hts (fun _ h9 => List.mem_cons_of_mem _ (List.mem_append_left _ (List.mem_append_right _ h9))) tyX3 tyX3_ok nmX3 hown hK hP hD hS 13 (Nat.lt_of_lt_of_le (Nat.le_of_ble_eq_true rfl : 13 < 182) (Nat.le_add_right _ _)) (cC_13 _ _ _ _ _) rfl 6 (by decide) (hts (.fieldLink RX3 31 "SeatsRound$Law" "weights" "I") (List.mem_of_getElem? (i := 3) rfl)) (fun _ h9 => h9) rfl (tyX3_ok 6 (by decide)) rfl rfl (Nat.le_of_ble_eq_true rfl) (oC_13_6 _ _ _ _ _ _) h dX3_look_15 (fun σ14 H locs h hP hD hS => ?_)
    refine lv_aload_n hx hb dX3_look_18 rfl (lv_at hl 0 rfl) ?_
    refine lv_iconst (v := 0) hx hb dX3_look_19 (by decide) ?_
    refine ux_put (D := (dC, dI)) (ci := 3) (C := RX3) (T := TX3) (M := 8) (fs := (oLW ad (σ14.1 13))) hx hb hts (fun _ h9 => List.mem_cons_of_mem _ (List.mem_append_left _ (List.mem_append_right _ h9))) tyX3 tyX3_ok nmX3 hown hK hP hD hS 13 (Nat.lt_of_lt_of_le (Nat.le_of_ble_eq_true rfl : 13 < 182) (Nat.le_add_right _ _)) (cC_13 _ _ _ _ _) rfl 7 (by decide) (hts (.fieldLink RX3 34 "SeatsRound$Law" "greatest" "I") (List.mem_of_getElem? (i := 4) rfl)) (fun _ h9 => h9) rfl (tyX3_ok 7 (by decide)) rfl rfl (Nat.le_of_ble_eq_true rfl) (oC_13_7 _ _ _ _ _ _) h dX3_look_20 (fun σ15 H locs h hP hD hS => ?_)
    refine lv_iconst (v := 0) hx hb dX3_look_23 (by decide) ?_
    refine lv_istore (lv' := [(4, .int 0), (0, .ref (ad 13)), (1, .ref (ad 182)), (2, .ref (ad 7)), (3, .int 0)]) hx hb dX3_look_24 hl (by decide) rfl (fun ls hl => ?_)
    have hl := lv_sub hl [1, 2, 3, 4, 0] (l' := [(0, .ref (ad 13)), (1, .ref (ad 182)), (2, .ref (ad 7)), (3, .int 0), (4, .int 0)]) rfl
    exact w26 FU σ15 0 0 H locs ls h hP hD hS hl
  intro H locs ls h hP hD hS hl
  exact w0 σ H locs ls h hP hD hS (lv_sub hl [0, 1, 2] rfl)

set_option maxHeartbeats 4000000 in
set_option maxRecDepth 100000 in
theorem tX3_sign (l : Launch) (dC : Nat → ClassId) (dI : Nat → Nat → Nat) (cy : Nat → ClassId) (ad : Nat → Nat) (τ nb : Nat) (hτ : τ < nb) (σ : S2)  (sz : Nat) (r0 : Int32) (h : fX3_sign τ σ = some r0) : Met l yX3_sign wsX3_sign ({ frames := 1, cells := 0, slots := 0, locals := 23 }) (va_Pc [.ref (ad 13)] (wPre (dC, dI) cy (wG (cC cy ad τ) ad (182 + 6 * nb) σ) sz)) (va_Qi (fun (r : Int32) (_ : Unit) => r = r0) (fun (_ : Unit) t => wAt (dC, dI) (va_A (wG (cC cy ad τ) ad (182 + 6 * nb) σ) sz) (wG (cC cy ad τ) ad (182 + 6 * nb) σ) t) (va_A (wG (cC cy ad τ) ad (182 + 6 * nb) σ) sz)) 0 0 (va_A (wG (cC cy ad τ) ad (182 + 6 * nb) σ) sz) := by
  refine Met.ofW (cc := cX3_sign) (maxL := 1) (ret := (some .int)) (by decide) rfl ?_
  intro p e s m args below meth c s₁ B hml hv
  obtain ⟨rfl, hsz, hP, hK, hD0, hN⟩ := hv
  have hx := B.exec
  have hb := B.bytes
  have hr := B.returns
  have hts := atoms_spec (ws := wsX3_sign) B.pre
  have hown : s.vm.findClass RX3 = some m.cls := findClass_of_methodNamed B.named
  have hlocks := B.notSynchronized
  subst hsz
  have hD := hD0.self (sz := s.heap.size)
  generalize hAe : va_A (wG (cC cy ad τ) ad (182 + 6 * nb) σ) s.heap.size = A at hD ⊢
  have hA : ∀ q : Nat, s.heap.size ≤ q → A q := fun q h => by rw [← hAe]; exact Or.inr h
  have hS : va_S A s.heap s.heap [] := va_S.rf
  have hl := lv_entry ([.ref (ad 13)]) (n := 1) (Nat.le_of_ble_eq_true rfl)
  rw [lg_entry_eq]
  generalize (lg_sl ([.ref (ad 13)]) ++ List.replicate (1 - (lg_sl ([.ref (ad 13)])).length) Slot.unset).toArray = ls at hl ⊢
  have hl : lv_has ls 1 [(0, .ref (ad 13))] := hl
  unfold fX3_sign at h
  clear hAe hD0
  suffices HH : ∀ (H : Heap) (locs : List Loc) (ls : Array Slot), fX3_sign_0 τ σ = some r0 → va_P (dC, dI) vwCl (wG (cC cy ad τ) ad (182 + 6 * nb) σ) H → va_D A (wG (cC cy ad τ) ad (182 + 6 * nb) σ) → va_S A s.heap H locs → lv_has ls 1 [(0, .ref (ad 13))] → W p l e (headSpec wsX3_sign ({ frames := 1, cells := 0, slots := 0, locals := 23 })).room s m (#[.ref (ad 13)]) below meth c H locs 0 0 (MQ below (va_Qi (fun (r : Int32) (_ : Unit) => r = r0) (fun (_ : Unit) t => wAt (dC, dI) A (wG (cC cy ad τ) ad (182 + 6 * nb) σ) t) A) (#[.ref (ad 13)]) s 0 0 A) (F0 m 0 ls []) from HH s.heap [] ls h hP hD hS hl
  have w0 : ∀ (σ : S2)  (H : Heap) (locs : List Loc) (ls : Array Slot), fX3_sign_0 τ σ = some r0 → va_P (dC, dI) vwCl (wG (cC cy ad τ) ad (182 + 6 * nb) σ) H → va_D A (wG (cC cy ad τ) ad (182 + 6 * nb) σ) → va_S A s.heap H locs → lv_has ls 1 [(0, .ref (ad 13))] → W p l e (headSpec wsX3_sign ({ frames := 1, cells := 0, slots := 0, locals := 23 })).room s m (#[.ref (ad 13)]) below meth c H locs 0 0 (MQ below (va_Qi (fun (r : Int32) (_ : Unit) => r = r0) (fun (_ : Unit) t => wAt (dC, dI) A (wG (cC cy ad τ) ad (182 + 6 * nb) σ) t) A) (#[.ref (ad 13)]) s 0 0 A) (F0 m 0 ls []) := by
    intro σ H locs ls h hP hD hS hl
    unfold fX3_sign_0 at h
    refine lv_aload_n hx hb dX3_sign_0 rfl (lv_at hl 0 rfl) ?_
    refine ux_get (D := (dC, dI)) (ci := 3) (v := .int (σ.1 13 2)) (C := RX3) (T := TX3) (M := 8) (fs := (oLW ad (σ.1 13))) hx hb hts (fun _ h9 => List.mem_cons_of_mem _ (List.mem_append_right _ h9)) hown hK hP 13 (Nat.lt_of_lt_of_le (Nat.le_of_ble_eq_true rfl : 13 < 182) (Nat.le_add_right _ _)) (cC_13 _ _ _ _ _) rfl 2 (by decide) (hts (.fieldLink RX3 19 "SeatsRound$Law" "at" "I") (List.mem_of_getElem? (i := 1) rfl)) (fun _ h9 => h9) rfl dX3_sign_1 ?_
    refine lv_if_lt (tgt := 46) hx hb dX3_sign_4 (by decide) (fun hcd => ?_) (fun hcd => ?_)
    · have h := cdP hcd h
      refine lv_iconst (v := (-1)) hx hb dX3_sign_46 (by decide) ?_
      exact ux_iretP hx hb hr h hP hD hS hlocks dX3_sign_47
    · have h := cdN hcd h
      refine lv_aload_n hx hb dX3_sign_7 rfl (lv_at hl 0 rfl) ?_
      refine ux_get (D := (dC, dI)) (ci := 3) (v := .int (σ.1 13 2)) (C := RX3) (T := TX3) (M := 8) (fs := (oLW ad (σ.1 13))) hx hb hts (fun _ h9 => List.mem_cons_of_mem _ (List.mem_append_right _ h9)) hown hK hP 13 (Nat.lt_of_lt_of_le (Nat.le_of_ble_eq_true rfl : 13 < 182) (Nat.le_add_right _ _)) (cC_13 _ _ _ _ _) rfl 2 (by decide) (hts (.fieldLink RX3 19 "SeatsRound$Law" "at" "I") (List.mem_of_getElem? (i := 1) rfl)) (fun _ h9 => h9) rfl dX3_sign_8 ?_
      refine lv_aload_n hx hb dX3_sign_11 rfl (lv_at hl 0 rfl) ?_
      refine ux_get (D := (dC, dI)) (ci := 3) (v := .int (σ.1 13 1)) (C := RX3) (T := TX3) (M := 8) (fs := (oLW ad (σ.1 13))) hx hb hts (fun _ h9 => List.mem_cons_of_mem _ (List.mem_append_right _ h9)) hown hK hP 13 (Nat.lt_of_lt_of_le (Nat.le_of_ble_eq_true rfl : 13 < 182) (Nat.le_add_right _ _)) (cC_13 _ _ _ _ _) rfl 1 (by decide) (hts (.fieldLink RX3 15 "SeatsRound$Law" "length" "I") (List.mem_of_getElem? (i := 2) rfl)) (fun _ h9 => h9) rfl dX3_sign_12 ?_
      refine lv_icmp_ge (tgt := 46) hx hb dX3_sign_15 (by decide) (fun hcd => ?_) (fun hcd => ?_)
      · have h := cdP hcd h
        refine lv_iconst (v := (-1)) hx hb dX3_sign_46 (by decide) ?_
        exact ux_iretP hx hb hr h hP hD hS hlocks dX3_sign_47
      · have h := cdN hcd h
        refine lv_aload_n hx hb dX3_sign_18 rfl (lv_at hl 0 rfl) ?_
        refine ux_get (D := (dC, dI)) (ci := 3) (v := .int (σ.1 13 2)) (C := RX3) (T := TX3) (M := 8) (fs := (oLW ad (σ.1 13))) hx hb hts (fun _ h9 => List.mem_cons_of_mem _ (List.mem_append_right _ h9)) hown hK hP 13 (Nat.lt_of_lt_of_le (Nat.le_of_ble_eq_true rfl : 13 < 182) (Nat.le_add_right _ _)) (cC_13 _ _ _ _ _) rfl 2 (by decide) (hts (.fieldLink RX3 19 "SeatsRound$Law" "at" "I") (List.mem_of_getElem? (i := 1) rfl)) (fun _ h9 => h9) rfl dX3_sign_19 ?_
        refine lv_aload_n hx hb dX3_sign_22 rfl (lv_at hl 0 rfl) ?_
        refine ux_get (D := (dC, dI)) (ci := 3) (v := .ref (ad (if σ.1 13 0 = 0 then 43 else 185))) (C := RX3) (T := TX3) (M := 8) (fs := (oLW ad (σ.1 13))) hx hb hts (fun _ h9 => List.mem_cons_of_mem _ (List.mem_append_right _ h9)) hown hK hP 13 (Nat.lt_of_lt_of_le (Nat.le_of_ble_eq_true rfl : 13 < 182) (Nat.le_add_right _ _)) (cC_13 _ _ _ _ _) rfl 0 (by decide) (hts (.fieldLink RX3 9 "SeatsRound$Law" "text" "[B") (List.mem_of_getElem? (i := 3) rfl)) (fun _ h9 => h9) rfl dX3_sign_23 ?_
        refine ux_alen (v := Int32.ofNat (if σ.1 13 0 = 0 then 0 else 80)) hx hb hK hP (if σ.1 13 0 = 0 then 43 else 185) 1 (by split <;> omega) (cC_text _ _ _ _ _ _) rfl rfl dX3_sign_26 ?_
        refine lv_icmp_ge (tgt := 46) hx hb dX3_sign_27 (by decide) (fun hcd => ?_) (fun hcd => ?_)
        · have h := cdP hcd h
          refine lv_iconst (v := (-1)) hx hb dX3_sign_46 (by decide) ?_
          exact ux_iretP hx hb hr h hP hD hS hlocks dX3_sign_47
        · have h := cdN hcd h
          refine lv_aload_n hx hb dX3_sign_30 rfl (lv_at hl 0 rfl) ?_
          refine ux_get (D := (dC, dI)) (ci := 3) (v := .ref (ad (if σ.1 13 0 = 0 then 43 else 185))) (C := RX3) (T := TX3) (M := 8) (fs := (oLW ad (σ.1 13))) hx hb hts (fun _ h9 => List.mem_cons_of_mem _ (List.mem_append_right _ h9)) hown hK hP 13 (Nat.lt_of_lt_of_le (Nat.le_of_ble_eq_true rfl : 13 < 182) (Nat.le_add_right _ _)) (cC_13 _ _ _ _ _) rfl 0 (by decide) (hts (.fieldLink RX3 9 "SeatsRound$Law" "text" "[B") (List.mem_of_getElem? (i := 3) rfl)) (fun _ h9 => h9) rfl dX3_sign_31 ?_
          refine lv_aload_n hx hb dX3_sign_34 rfl (lv_at hl 0 rfl) ?_
          refine ux_get (D := (dC, dI)) (ci := 3) (v := .int (σ.1 13 2)) (C := RX3) (T := TX3) (M := 8) (fs := (oLW ad (σ.1 13))) hx hb hts (fun _ h9 => List.mem_cons_of_mem _ (List.mem_append_right _ h9)) hown hK hP 13 (Nat.lt_of_lt_of_le (Nat.le_of_ble_eq_true rfl : 13 < 182) (Nat.le_add_right _ _)) (cC_13 _ _ _ _ _) rfl 2 (by decide) (hts (.fieldLink RX3 19 "SeatsRound$Law" "at" "I") (List.mem_of_getElem? (i := 1) rfl)) (fun _ h9 => h9) rfl dX3_sign_35 ?_
          refine ux_bald hx hb hK hP (if σ.1 13 0 = 0 then 43 else 185) 1 (by split <;> omega) (cC_text _ _ _ _ _ _) rfl h dX3_sign_38 (fun v1 h => ?_)
          refine lv_sipush (v := 255) hx hb dX3_sign_39 (by decide) ?_
          refine lv_iand hx hb dX3_sign_42 ?_
          refine lv_goto (tgt := 47) hx hb dX3_sign_43 (by decide) ?_
          exact ux_iretP hx hb hr h hP hD hS hlocks dX3_sign_47
  intro H locs ls h hP hD hS hl
  exact w0 σ H locs ls h hP hD hS (lv_sub hl [0] rfl)

set_option maxHeartbeats 4000000 in
set_option maxRecDepth 100000 in
theorem tX3_isDigit (l : Launch) (dC : Nat → ClassId) (dI : Nat → Nat → Nat) (cy : Nat → ClassId) (ad : Nat → Nat) (τ nb : Nat) (hτ : τ < nb) (σ : S2) (a0 : Int32) (sz : Nat) (r0 : Int32) (h : fX3_isDigit τ σ a0 = some r0) : Met l yX3_isDigit wsX3_isDigit ({ frames := 1, cells := 0, slots := 0, locals := 23 }) (va_Pc [.int a0] (wPre (dC, dI) cy (wG (cC cy ad τ) ad (182 + 6 * nb) σ) sz)) (va_Qi (fun (r : Int32) (_ : Unit) => r = r0) (fun (_ : Unit) t => wAt (dC, dI) (va_A (wG (cC cy ad τ) ad (182 + 6 * nb) σ) sz) (wG (cC cy ad τ) ad (182 + 6 * nb) σ) t) (va_A (wG (cC cy ad τ) ad (182 + 6 * nb) σ) sz)) 0 0 (va_A (wG (cC cy ad τ) ad (182 + 6 * nb) σ) sz) := by
  refine Met.ofW (cc := cX3_isDigit) (maxL := 1) (ret := (some .boolean)) (by decide) rfl ?_
  intro p e s m args below meth c s₁ B hml hv
  obtain ⟨rfl, hsz, hP, hK, hD0, hN⟩ := hv
  have hx := B.exec
  have hb := B.bytes
  have hr := B.returns
  have hts := atoms_spec (ws := wsX3_isDigit) B.pre
  have hown : s.vm.findClass RX3 = some m.cls := findClass_of_methodNamed B.named
  have hlocks := B.notSynchronized
  subst hsz
  have hD := hD0.self (sz := s.heap.size)
  generalize hAe : va_A (wG (cC cy ad τ) ad (182 + 6 * nb) σ) s.heap.size = A at hD ⊢
  have hA : ∀ q : Nat, s.heap.size ≤ q → A q := fun q h => by rw [← hAe]; exact Or.inr h
  have hS : va_S A s.heap s.heap [] := va_S.rf
  have hl := lv_entry ([.int a0]) (n := 1) (Nat.le_of_ble_eq_true rfl)
  rw [lg_entry_eq]
  generalize (lg_sl ([.int a0]) ++ List.replicate (1 - (lg_sl ([.int a0])).length) Slot.unset).toArray = ls at hl ⊢
  have hl : lv_has ls 1 [(0, .int a0)] := hl
  unfold fX3_isDigit at h
  clear hAe hD0
  suffices HH : ∀ (H : Heap) (locs : List Loc) (ls : Array Slot), fX3_isDigit_0 τ σ a0 = some r0 → va_P (dC, dI) vwCl (wG (cC cy ad τ) ad (182 + 6 * nb) σ) H → va_D A (wG (cC cy ad τ) ad (182 + 6 * nb) σ) → va_S A s.heap H locs → lv_has ls 1 [(0, .int a0)] → W p l e (headSpec wsX3_isDigit ({ frames := 1, cells := 0, slots := 0, locals := 23 })).room s m (#[.int a0]) below meth c H locs 0 0 (MQ below (va_Qi (fun (r : Int32) (_ : Unit) => r = r0) (fun (_ : Unit) t => wAt (dC, dI) A (wG (cC cy ad τ) ad (182 + 6 * nb) σ) t) A) (#[.int a0]) s 0 0 A) (F0 m 0 ls []) from HH s.heap [] ls h hP hD hS hl
  have w0 : ∀ (σ : S2) (x0 : Int32) (H : Heap) (locs : List Loc) (ls : Array Slot), fX3_isDigit_0 τ σ x0 = some r0 → va_P (dC, dI) vwCl (wG (cC cy ad τ) ad (182 + 6 * nb) σ) H → va_D A (wG (cC cy ad τ) ad (182 + 6 * nb) σ) → va_S A s.heap H locs → lv_has ls 1 [(0, .int x0)] → W p l e (headSpec wsX3_isDigit ({ frames := 1, cells := 0, slots := 0, locals := 23 })).room s m (#[.int a0]) below meth c H locs 0 0 (MQ below (va_Qi (fun (r : Int32) (_ : Unit) => r = r0) (fun (_ : Unit) t => wAt (dC, dI) A (wG (cC cy ad τ) ad (182 + 6 * nb) σ) t) A) (#[.int a0]) s 0 0 A) (F0 m 0 ls []) := by
    intro σ x0 H locs ls h hP hD hS hl
    unfold fX3_isDigit_0 at h
    refine lv_iload_n hx hb dX3_isDigit_0 rfl (lv_at hl 0 rfl) ?_
    refine lv_bipush (v := 48) hx hb dX3_isDigit_1 (by decide) ?_
    refine lv_icmp_lt (tgt := 16) hx hb dX3_isDigit_3 (by decide) (fun hcd => ?_) (fun hcd => ?_)
    · have h := cdP hcd h
      refine lv_iconst (v := 0) hx hb dX3_isDigit_16 (by decide) ?_
      exact ux_zretP hx hb hr rfl h hP hD hS hlocks dX3_isDigit_17
    · have h := cdN hcd h
      refine lv_iload_n hx hb dX3_isDigit_6 rfl (lv_at hl 0 rfl) ?_
      refine lv_bipush (v := 57) hx hb dX3_isDigit_7 (by decide) ?_
      refine lv_icmp_gt (tgt := 16) hx hb dX3_isDigit_9 (by decide) (fun hcd => ?_) (fun hcd => ?_)
      · have h := cdP hcd h
        refine lv_iconst (v := 0) hx hb dX3_isDigit_16 (by decide) ?_
        exact ux_zretP hx hb hr rfl h hP hD hS hlocks dX3_isDigit_17
      · have h := cdN hcd h
        refine lv_iconst (v := 1) hx hb dX3_isDigit_12 (by decide) ?_
        refine lv_goto (tgt := 17) hx hb dX3_isDigit_13 (by decide) ?_
        exact ux_zretP hx hb hr rfl h hP hD hS hlocks dX3_isDigit_17
  intro H locs ls h hP hD hS hl
  exact w0 σ a0 H locs ls h hP hD hS (lv_sub hl [0] rfl)

set_option maxHeartbeats 4000000 in
set_option maxRecDepth 100000 in
theorem tX3_readNumber (l : Launch) (dC : Nat → ClassId) (dI : Nat → Nat → Nat) (cy : Nat → ClassId) (ad : Nat → Nat) (τ nb : Nat) (hτ : τ < nb) (σ : S2)  (sz : Nat) (r0 : Int32) (σ9 : S2) (h : fX3_readNumber τ σ = some (r0, σ9)) : Met l yX3_readNumber wsX3_readNumber ({ frames := 2, cells := 0, slots := 0, locals := 43 }) (va_Pc [.ref (ad 13)] (wPre (dC, dI) cy (wG (cC cy ad τ) ad (182 + 6 * nb) σ) sz)) (va_Qi (fun (r : Int32) (_ : Unit) => r = r0) (fun (_ : Unit) t => wAt (dC, dI) (va_A (wG (cC cy ad τ) ad (182 + 6 * nb) σ) sz) (wG (cC cy ad τ) ad (182 + 6 * nb) σ9) t) (va_A (wG (cC cy ad τ) ad (182 + 6 * nb) σ) sz)) 0 0 (va_A (wG (cC cy ad τ) ad (182 + 6 * nb) σ) sz) := by
  refine Met.ofW (cc := cX3_readNumber) (maxL := 3) (ret := (some .int)) (by decide) rfl ?_
  intro p e s m args below meth c s₁ B hml hv
  obtain ⟨rfl, hsz, hP, hK, hD0, hN⟩ := hv
  have hx := B.exec
  have hb := B.bytes
  have hr := B.returns
  have hts := atoms_spec (ws := wsX3_readNumber) B.pre
  have hown : s.vm.findClass RX3 = some m.cls := findClass_of_methodNamed B.named
  have hlocks := B.notSynchronized
  subst hsz
  have hD := hD0.self (sz := s.heap.size)
  generalize hAe : va_A (wG (cC cy ad τ) ad (182 + 6 * nb) σ) s.heap.size = A at hD ⊢
  have hA : ∀ q : Nat, s.heap.size ≤ q → A q := fun q h => by rw [← hAe]; exact Or.inr h
  have hS : va_S A s.heap s.heap [] := va_S.rf
  have hl := lv_entry ([.ref (ad 13)]) (n := 3) (Nat.le_of_ble_eq_true rfl)
  rw [lg_entry_eq]
  generalize (lg_sl ([.ref (ad 13)]) ++ List.replicate (3 - (lg_sl ([.ref (ad 13)])).length) Slot.unset).toArray = ls at hl ⊢
  have hl : lv_has ls 3 [(0, .ref (ad 13))] := hl
  unfold fX3_readNumber at h
  clear hAe hD0
  suffices HH : ∀ (H : Heap) (locs : List Loc) (ls : Array Slot), fX3_readNumber_0 τ σ = some (r0, σ9) → va_P (dC, dI) vwCl (wG (cC cy ad τ) ad (182 + 6 * nb) σ) H → va_D A (wG (cC cy ad τ) ad (182 + 6 * nb) σ) → va_S A s.heap H locs → lv_has ls 3 [(0, .ref (ad 13))] → W p l e (headSpec wsX3_readNumber ({ frames := 2, cells := 0, slots := 0, locals := 43 })).room s m (#[.ref (ad 13)]) below meth c H locs 0 0 (MQ below (va_Qi (fun (r : Int32) (_ : Unit) => r = r0) (fun (_ : Unit) t => wAt (dC, dI) A (wG (cC cy ad τ) ad (182 + 6 * nb) σ9) t) A) (#[.ref (ad 13)]) s 0 0 A) (F0 m 0 ls []) from HH s.heap [] ls h hP hD hS hl
  have w4 : ∀ (n : Nat), ∀ (σ : S2) (x1 : Int32) (x2 : Int32) (H : Heap) (locs : List Loc) (ls : Array Slot), fX3_readNumber_4 τ n σ x1 x2 = some (r0, σ9) → va_P (dC, dI) vwCl (wG (cC cy ad τ) ad (182 + 6 * nb) σ) H → va_D A (wG (cC cy ad τ) ad (182 + 6 * nb) σ) → va_S A s.heap H locs → lv_has ls 3 [(0, .ref (ad 13)), (1, .int x1), (2, .int x2)] → W p l e (headSpec wsX3_readNumber ({ frames := 2, cells := 0, slots := 0, locals := 43 })).room s m (#[.ref (ad 13)]) below meth c H locs 0 0 (MQ below (va_Qi (fun (r : Int32) (_ : Unit) => r = r0) (fun (_ : Unit) t => wAt (dC, dI) A (wG (cC cy ad τ) ad (182 + 6 * nb) σ9) t) A) (#[.ref (ad 13)]) s 0 0 A) (F0 m 4 ls []) := by
    intro n
    induction n with
    | zero => intro σ x1 x2 H locs ls h; cases h
    | succ n ih =>
    intro σ x1 x2 H locs ls h hP hD hS hl
    unfold fX3_readNumber_4 at h
    refine lv_iload_n hx hb dX3_readNumber_4 rfl (lv_at hl 2 rfl) ?_
    refine lv_iconst (v := 3) hx hb dX3_readNumber_5 (by decide) ?_
    refine lv_icmp_ge (tgt := 48) hx hb dX3_readNumber_6 (by decide) (fun hcd => ?_) (fun hcd => ?_)
    · have h := cdP hcd h
      refine lv_iload_n hx hb dX3_readNumber_48 rfl (lv_at hl 1 rfl) ?_
      exact ux_iret hx hb hr h hP hD hS hlocks dX3_readNumber_49
    · have h := cdN hcd h
      refine lv_aload_n hx hb dX3_readNumber_9 rfl (lv_at hl 0 rfl) ?_
      obtain ⟨r1, hf2, h⟩ := biS h
      refine ux_calli (va_runV (As := []) (rest := []) ⟨hx, hb, hml, hown, hts⟩ (tX3_sign l dC dI cy ad τ nb hτ σ H.size r1 hf2) (cwV 0 hts gX3_readNumber_X3_sign rfl rfl rfl (by decide +kernel) ⟨Nat.le_of_ble_eq_true rfl, Nat.le_of_ble_eq_true rfl⟩) (wp_V hK hN hP hD (va_recv hK hP (ci := 3) (q0 := 13) rfl (wG_of (Nat.lt_of_lt_of_le (Nat.le_of_ble_eq_true rfl : 13 < 182) (Nat.le_add_right _ _)) (cC_13 _ _ _ _ _)))) rfl rfl hl.1 rfl (lv_room (Nat.le_of_ble_eq_true rfl)) dX3_readNumber_10 ⟨Nat.le_of_ble_eq_true rfl, Nat.le_of_ble_eq_true rfl⟩) hD hS hA (fun H locs hP hD hS => ?_)
      obtain ⟨r3, hf4, h⟩ := biS h
      refine ux_calli (va_runS (As := [.int r1]) (rest := []) ⟨hx, hb, hml, hown, hts⟩ (tX3_isDigit l dC dI cy ad τ nb hτ σ r1 H.size r3 hf4) (va_cwS 1 hts gX3_readNumber_X3_isDigit rfl rfl rfl (by decide +kernel) ⟨Nat.le_of_ble_eq_true rfl, Nat.le_of_ble_eq_true rfl⟩) (wp_S hK hN hP hD) rfl rfl hl.1 rfl (lv_room (Nat.le_of_ble_eq_true rfl)) dX3_readNumber_13 ⟨Nat.le_of_ble_eq_true rfl, Nat.le_of_ble_eq_true rfl⟩) hD hS hA (fun H locs hP hD hS => ?_)
      refine lv_if_eq (tgt := 48) hx hb dX3_readNumber_16 (by decide) (fun hcd => ?_) (fun hcd => ?_)
      · have h := cdP hcd h
        refine lv_iload_n hx hb dX3_readNumber_48 rfl (lv_at hl 1 rfl) ?_
        exact ux_iret hx hb hr h hP hD hS hlocks dX3_readNumber_49
      · have h := cdN hcd h
        refine lv_bipush (v := 10) hx hb dX3_readNumber_19 (by decide) ?_
        refine lv_iload_n hx hb dX3_readNumber_21 rfl (lv_at hl 1 rfl) ?_
        refine lv_imul hx hb dX3_readNumber_22 ?_
        refine lv_aload_n hx hb dX3_readNumber_23 rfl (lv_at hl 0 rfl) ?_
        obtain ⟨r5, hf6, h⟩ := biS h
        refine ux_calli (va_runV (As := []) (rest := [.int (10 * x1)]) ⟨hx, hb, hml, hown, hts⟩ (tX3_sign l dC dI cy ad τ nb hτ σ H.size r5 hf6) (cwV 0 hts gX3_readNumber_X3_sign rfl rfl rfl (by decide +kernel) ⟨Nat.le_of_ble_eq_true rfl, Nat.le_of_ble_eq_true rfl⟩) (wp_V hK hN hP hD (va_recv hK hP (ci := 3) (q0 := 13) rfl (wG_of (Nat.lt_of_lt_of_le (Nat.le_of_ble_eq_true rfl : 13 < 182) (Nat.le_add_right _ _)) (cC_13 _ _ _ _ _)))) rfl rfl hl.1 rfl (lv_room (Nat.le_of_ble_eq_true rfl)) dX3_readNumber_24 ⟨Nat.le_of_ble_eq_true rfl, Nat.le_of_ble_eq_true rfl⟩) hD hS hA (fun H locs hP hD hS => ?_)
        refine lv_iadd hx hb dX3_readNumber_27 ?_
        refine lv_bipush (v := 48) hx hb dX3_readNumber_28 (by decide) ?_
        refine lv_isub hx hb dX3_readNumber_30 ?_
        refine lv_topi (fun v7 ev7 => ?_)
        have h := nmS h ev7
        refine lv_istore_n (lv' := [(1, .int v7), (0, .ref (ad 13)), (2, .int x2)]) hx hb dX3_readNumber_31 rfl hl (by decide) rfl (fun ls hl => ?_)
        have hl := lv_sub hl [1, 0, 2] (l' := [(0, .ref (ad 13)), (1, .int v7), (2, .int x2)]) rfl
        refine lv_aload_n hx hb dX3_readNumber_32 rfl (lv_at hl 0 rfl) ?_
        refine lv_dup hx hb dX3_readNumber_33 rfl ?_
        refine ux_get (D := (dC, dI)) (ci := 3) (v := .int (σ.1 13 2)) (C := RX3) (T := TX3) (M := 8) (fs := (oLW ad (σ.1 13))) hx hb hts (fun _ h9 => List.mem_cons_of_mem _ (List.mem_append_right _ h9)) hown hK hP 13 (Nat.lt_of_lt_of_le (Nat.le_of_ble_eq_true rfl : 13 < 182) (Nat.le_add_right _ _)) (cC_13 _ _ _ _ _) rfl 2 (by decide) (hts (.fieldLink RX3 19 "SeatsRound$Law" "at" "I") (List.mem_of_getElem? (i := 1) rfl)) (fun _ h9 => h9) rfl dX3_readNumber_34 ?_
        refine lv_iconst (v := 1) hx hb dX3_readNumber_37 (by decide) ?_
        refine lv_iadd hx hb dX3_readNumber_38 ?_
        refine ux_put (D := (dC, dI)) (ci := 3) (C := RX3) (T := TX3) (M := 8) (fs := (oLW ad (σ.1 13))) hx hb hts (fun _ h9 => List.mem_cons_of_mem _ (List.mem_append_right _ h9)) tyX3 tyX3_ok nmX3 hown hK hP hD hS 13 (Nat.lt_of_lt_of_le (Nat.le_of_ble_eq_true rfl : 13 < 182) (Nat.le_add_right _ _)) (cC_13 _ _ _ _ _) rfl 2 (by decide) (hts (.fieldLink RX3 19 "SeatsRound$Law" "at" "I") (List.mem_of_getElem? (i := 1) rfl)) (fun _ h9 => h9) rfl (tyX3_ok 2 (by decide)) rfl rfl (Nat.le_of_ble_eq_true rfl) (oC_13_2 _ _ _ _ _ _) h dX3_readNumber_39 (fun σ8 H locs h hP hD hS => ?_)
        obtain ⟨v9, ev9⟩ : ∃ y : Int32, y = x2 + 1 := ⟨_, rfl⟩
        have h := nmS h ev9
        refine lv_iinc (v := v9) (lv' := [(2, .int v9), (0, .ref (ad 13)), (1, .int v7)]) hx hb dX3_readNumber_42 hl (k := 2) rfl (by rw [ev9]; rfl) (by decide) rfl (fun ls hl => ?_)
        have hl := lv_sub hl [1, 2, 0] (l' := [(0, .ref (ad 13)), (1, .int v7), (2, .int v9)]) rfl
        refine lv_goto (tgt := 4) hx hb dX3_readNumber_45 (by decide) ?_
        exact ih σ8 v7 v9 H locs ls h hP hD hS hl
  have w0 : ∀ (σ : S2)  (H : Heap) (locs : List Loc) (ls : Array Slot), fX3_readNumber_0 τ σ = some (r0, σ9) → va_P (dC, dI) vwCl (wG (cC cy ad τ) ad (182 + 6 * nb) σ) H → va_D A (wG (cC cy ad τ) ad (182 + 6 * nb) σ) → va_S A s.heap H locs → lv_has ls 3 [(0, .ref (ad 13))] → W p l e (headSpec wsX3_readNumber ({ frames := 2, cells := 0, slots := 0, locals := 43 })).room s m (#[.ref (ad 13)]) below meth c H locs 0 0 (MQ below (va_Qi (fun (r : Int32) (_ : Unit) => r = r0) (fun (_ : Unit) t => wAt (dC, dI) A (wG (cC cy ad τ) ad (182 + 6 * nb) σ9) t) A) (#[.ref (ad 13)]) s 0 0 A) (F0 m 0 ls []) := by
    intro σ H locs ls h hP hD hS hl
    unfold fX3_readNumber_0 at h
    refine lv_iconst (v := 0) hx hb dX3_readNumber_0 (by decide) ?_
    refine lv_istore_n (lv' := [(1, .int 0), (0, .ref (ad 13))]) hx hb dX3_readNumber_1 rfl hl (by decide) rfl (fun ls hl => ?_)
    have hl := lv_sub hl [1, 0] (l' := [(0, .ref (ad 13)), (1, .int 0)]) rfl
    refine lv_iconst (v := 0) hx hb dX3_readNumber_2 (by decide) ?_
    refine lv_istore_n (lv' := [(2, .int 0), (0, .ref (ad 13)), (1, .int 0)]) hx hb dX3_readNumber_3 rfl hl (by decide) rfl (fun ls hl => ?_)
    have hl := lv_sub hl [1, 2, 0] (l' := [(0, .ref (ad 13)), (1, .int 0), (2, .int 0)]) rfl
    exact w4 FU σ 0 0 H locs ls h hP hD hS hl
  intro H locs ls h hP hD hS hl
  exact w0 σ H locs ls h hP hD hS (lv_sub hl [0] rfl)

set_option maxHeartbeats 4000000 in
set_option maxRecDepth 100000 in
theorem uX3_readSum (l : Launch) (dC : Nat → ClassId) (dI : Nat → Nat → Nat) (cy : Nat → ClassId) (ad : Nat → Nat) (d : Nat) (τ nb : Nat) (hτ : τ < nb) (qX3_readSum : S2 → Int32 → Option (Int32 × S2)) (hqX3_readSum : ∀ (σ : S2) (a1 : Int32) (sz : Nat) (r0 : Int32) (σ9 : S2), qX3_readSum σ a1 = some (r0, σ9) → Met l yX3_readSum wsX3_readSum ({ frames := 3 + d, cells := 0, slots := 0, locals := 65 + 25 * d }) (va_Pc [.ref (ad 13), .int a1] (wPre (dC, dI) cy (wG (cC cy ad τ) ad (182 + 6 * nb) σ) sz)) (va_Qi (fun (r : Int32) (_ : Unit) => r = r0) (fun (_ : Unit) t => wAt (dC, dI) (va_A (wG (cC cy ad τ) ad (182 + 6 * nb) σ) sz) (wG (cC cy ad τ) ad (182 + 6 * nb) σ9) t) (va_A (wG (cC cy ad τ) ad (182 + 6 * nb) σ) sz)) 0 0 (va_A (wG (cC cy ad τ) ad (182 + 6 * nb) σ) sz)) (qX3_readProduct : S2 → Int32 → Option (Int32 × S2)) (hqX3_readProduct : ∀ (σ : S2) (a1 : Int32) (sz : Nat) (r0 : Int32) (σ9 : S2), qX3_readProduct σ a1 = some (r0, σ9) → Met l yX3_readProduct wsX3_readProduct ({ frames := 3 + d, cells := 0, slots := 0, locals := 65 + 25 * d }) (va_Pc [.ref (ad 13), .int a1] (wPre (dC, dI) cy (wG (cC cy ad τ) ad (182 + 6 * nb) σ) sz)) (va_Qi (fun (r : Int32) (_ : Unit) => r = r0) (fun (_ : Unit) t => wAt (dC, dI) (va_A (wG (cC cy ad τ) ad (182 + 6 * nb) σ) sz) (wG (cC cy ad τ) ad (182 + 6 * nb) σ9) t) (va_A (wG (cC cy ad τ) ad (182 + 6 * nb) σ) sz)) 0 0 (va_A (wG (cC cy ad τ) ad (182 + 6 * nb) σ) sz)) (qX3_readOperand : S2 → Int32 → Option (Int32 × S2)) (hqX3_readOperand : ∀ (σ : S2) (a1 : Int32) (sz : Nat) (r0 : Int32) (σ9 : S2), qX3_readOperand σ a1 = some (r0, σ9) → Met l yX3_readOperand wsX3_readOperand ({ frames := 3 + d, cells := 0, slots := 0, locals := 65 + 25 * d }) (va_Pc [.ref (ad 13), .int a1] (wPre (dC, dI) cy (wG (cC cy ad τ) ad (182 + 6 * nb) σ) sz)) (va_Qi (fun (r : Int32) (_ : Unit) => r = r0) (fun (_ : Unit) t => wAt (dC, dI) (va_A (wG (cC cy ad τ) ad (182 + 6 * nb) σ) sz) (wG (cC cy ad τ) ad (182 + 6 * nb) σ9) t) (va_A (wG (cC cy ad τ) ad (182 + 6 * nb) σ) sz)) 0 0 (va_A (wG (cC cy ad τ) ad (182 + 6 * nb) σ) sz)) (qX3_readBracket : S2 → Int32 → Option (Int32 × S2)) (hqX3_readBracket : ∀ (σ : S2) (a1 : Int32) (sz : Nat) (r0 : Int32) (σ9 : S2), qX3_readBracket σ a1 = some (r0, σ9) → Met l yX3_readBracket wsX3_readBracket ({ frames := 3 + d, cells := 0, slots := 0, locals := 65 + 25 * d }) (va_Pc [.ref (ad 13), .int a1] (wPre (dC, dI) cy (wG (cC cy ad τ) ad (182 + 6 * nb) σ) sz)) (va_Qi (fun (r : Int32) (_ : Unit) => r = r0) (fun (_ : Unit) t => wAt (dC, dI) (va_A (wG (cC cy ad τ) ad (182 + 6 * nb) σ) sz) (wG (cC cy ad τ) ad (182 + 6 * nb) σ9) t) (va_A (wG (cC cy ad τ) ad (182 + 6 * nb) σ) sz)) 0 0 (va_A (wG (cC cy ad τ) ad (182 + 6 * nb) σ) sz)) (σ : S2) (a1 : Int32) (sz : Nat) (r0 : Int32) (σ9 : S2) (h : eX3_readSum τ qX3_readSum qX3_readProduct qX3_readOperand qX3_readBracket σ a1 = some (r0, σ9)) : Met l yX3_readSum wsX3_readSum ({ frames := 3 + (d + 1), cells := 0, slots := 0, locals := 65 + 25 * (d + 1) }) (va_Pc [.ref (ad 13), .int a1] (wPre (dC, dI) cy (wG (cC cy ad τ) ad (182 + 6 * nb) σ) sz)) (va_Qi (fun (r : Int32) (_ : Unit) => r = r0) (fun (_ : Unit) t => wAt (dC, dI) (va_A (wG (cC cy ad τ) ad (182 + 6 * nb) σ) sz) (wG (cC cy ad τ) ad (182 + 6 * nb) σ9) t) (va_A (wG (cC cy ad τ) ad (182 + 6 * nb) σ) sz)) 0 0 (va_A (wG (cC cy ad τ) ad (182 + 6 * nb) σ) sz) := by
  refine Met.ofW (cc := cX3_readSum) (maxL := 6) (ret := (some .int)) (by decide) rfl ?_
  intro p e s m args below meth c s₁ B hml hv
  obtain ⟨rfl, hsz, hP, hK, hD0, hN⟩ := hv
  have hx := B.exec
  have hb := B.bytes
  have hr := B.returns
  have hts := atoms_spec (ws := wsX3_readSum) B.pre
  have hown : s.vm.findClass RX3 = some m.cls := findClass_of_methodNamed B.named
  have hlocks := B.notSynchronized
  subst hsz
  have hD := hD0.self (sz := s.heap.size)
  generalize hAe : va_A (wG (cC cy ad τ) ad (182 + 6 * nb) σ) s.heap.size = A at hD ⊢
  have hA : ∀ q : Nat, s.heap.size ≤ q → A q := fun q h => by rw [← hAe]; exact Or.inr h
  have hS : va_S A s.heap s.heap [] := va_S.rf
  have hl := lv_entry ([.ref (ad 13), .int a1]) (n := 6) (Nat.le_of_ble_eq_true rfl)
  rw [lg_entry_eq]
  generalize (lg_sl ([.ref (ad 13), .int a1]) ++ List.replicate (6 - (lg_sl ([.ref (ad 13), .int a1])).length) Slot.unset).toArray = ls at hl ⊢
  have hl : lv_has ls 6 [(0, .ref (ad 13)), (1, .int a1)] := hl
  unfold eX3_readSum at h
  clear hAe hD0
  suffices HH : ∀ (H : Heap) (locs : List Loc) (ls : Array Slot), fX3_readSum_0 τ qX3_readSum qX3_readProduct qX3_readOperand qX3_readBracket σ a1 = some (r0, σ9) → va_P (dC, dI) vwCl (wG (cC cy ad τ) ad (182 + 6 * nb) σ) H → va_D A (wG (cC cy ad τ) ad (182 + 6 * nb) σ) → va_S A s.heap H locs → lv_has ls 6 [(0, .ref (ad 13)), (1, .int a1)] → W p l e (headSpec wsX3_readSum ({ frames := 3 + (d + 1), cells := 0, slots := 0, locals := 65 + 25 * (d + 1) })).room s m (#[.ref (ad 13), .int a1]) below meth c H locs 0 0 (MQ below (va_Qi (fun (r : Int32) (_ : Unit) => r = r0) (fun (_ : Unit) t => wAt (dC, dI) A (wG (cC cy ad τ) ad (182 + 6 * nb) σ9) t) A) (#[.ref (ad 13), .int a1]) s 0 0 A) (F0 m 0 ls []) from HH s.heap [] ls h hP hD hS hl
  have w80 : ∀ (k8 : S2 → Int32 → Int32 → Int32 → Option (Int32 × S2)) (hk8 : ∀ (σ : S2) (x1 : Int32) (x2 : Int32) (x3 : Int32) (H : Heap) (locs : List Loc) (ls : Array Slot), k8 σ x1 x2 x3 = some (r0, σ9) → va_P (dC, dI) vwCl (wG (cC cy ad τ) ad (182 + 6 * nb) σ) H → va_D A (wG (cC cy ad τ) ad (182 + 6 * nb) σ) → va_S A s.heap H locs → lv_has ls 6 [(0, .ref (ad 13)), (1, .int x1), (2, .int x2), (3, .int x3)] → W p l e (headSpec wsX3_readSum ({ frames := 3 + (d + 1), cells := 0, slots := 0, locals := 65 + 25 * (d + 1) })).room s m (#[.ref (ad 13), .int a1]) below meth c H locs 0 0 (MQ below (va_Qi (fun (r : Int32) (_ : Unit) => r = r0) (fun (_ : Unit) t => wAt (dC, dI) A (wG (cC cy ad τ) ad (182 + 6 * nb) σ9) t) A) (#[.ref (ad 13), .int a1]) s 0 0 A) (F0 m 8 ls [])) , ∀ (σ : S2) (x1 : Int32) (x3 : Int32) (s0 : Int32) (H : Heap) (locs : List Loc) (ls : Array Slot), fX3_readSum_80 τ qX3_readSum qX3_readProduct qX3_readOperand qX3_readBracket k8 σ x1 x3 s0 = some (r0, σ9) → va_P (dC, dI) vwCl (wG (cC cy ad τ) ad (182 + 6 * nb) σ) H → va_D A (wG (cC cy ad τ) ad (182 + 6 * nb) σ) → va_S A s.heap H locs → lv_has ls 6 [(0, .ref (ad 13)), (1, .int x1), (3, .int x3)] → W p l e (headSpec wsX3_readSum ({ frames := 3 + (d + 1), cells := 0, slots := 0, locals := 65 + 25 * (d + 1) })).room s m (#[.ref (ad 13), .int a1]) below meth c H locs 0 0 (MQ below (va_Qi (fun (r : Int32) (_ : Unit) => r = r0) (fun (_ : Unit) t => wAt (dC, dI) A (wG (cC cy ad τ) ad (182 + 6 * nb) σ9) t) A) (#[.ref (ad 13), .int a1]) s 0 0 A) (F0 m 80 ls [.int s0]) := by
    intro k8 hk8 σ x1 x3 s0 H locs ls h hP hD hS hl
    unfold fX3_readSum_80 at h
    refine lv_istore_n (lv' := [(2, .int s0), (0, .ref (ad 13)), (1, .int x1), (3, .int x3)]) hx hb dX3_readSum_80 rfl hl (by decide) rfl (fun ls hl => ?_)
    have hl := lv_sub hl [1, 2, 0, 3] (l' := [(0, .ref (ad 13)), (1, .int x1), (2, .int s0), (3, .int x3)]) rfl
    obtain ⟨v1, ev1⟩ : ∃ y : Int32, y = x3 + 1 := ⟨_, rfl⟩
    have h := nmS h ev1
    refine lv_iinc (v := v1) (lv' := [(3, .int v1), (0, .ref (ad 13)), (1, .int x1), (2, .int s0)]) hx hb dX3_readSum_81 hl (k := 3) rfl (by rw [ev1]; rfl) (by decide) rfl (fun ls hl => ?_)
    have hl := lv_sub hl [1, 2, 3, 0] (l' := [(0, .ref (ad 13)), (1, .int x1), (2, .int s0), (3, .int v1)]) rfl
    refine lv_goto (tgt := 8) hx hb dX3_readSum_84 (by decide) ?_
    exact hk8 σ x1 s0 v1 H locs ls h hP hD hS hl
  have w45 : ∀ (k8 : S2 → Int32 → Int32 → Int32 → Option (Int32 × S2)) (hk8 : ∀ (σ : S2) (x1 : Int32) (x2 : Int32) (x3 : Int32) (H : Heap) (locs : List Loc) (ls : Array Slot), k8 σ x1 x2 x3 = some (r0, σ9) → va_P (dC, dI) vwCl (wG (cC cy ad τ) ad (182 + 6 * nb) σ) H → va_D A (wG (cC cy ad τ) ad (182 + 6 * nb) σ) → va_S A s.heap H locs → lv_has ls 6 [(0, .ref (ad 13)), (1, .int x1), (2, .int x2), (3, .int x3)] → W p l e (headSpec wsX3_readSum ({ frames := 3 + (d + 1), cells := 0, slots := 0, locals := 65 + 25 * (d + 1) })).room s m (#[.ref (ad 13), .int a1]) below meth c H locs 0 0 (MQ below (va_Qi (fun (r : Int32) (_ : Unit) => r = r0) (fun (_ : Unit) t => wAt (dC, dI) A (wG (cC cy ad τ) ad (182 + 6 * nb) σ9) t) A) (#[.ref (ad 13), .int a1]) s 0 0 A) (F0 m 8 ls [])) , ∀ (σ : S2) (x1 : Int32) (x2 : Int32) (x3 : Int32) (x4 : Int32) (H : Heap) (locs : List Loc) (ls : Array Slot), fX3_readSum_45 τ qX3_readSum qX3_readProduct qX3_readOperand qX3_readBracket k8 σ x1 x2 x3 x4 = some (r0, σ9) → va_P (dC, dI) vwCl (wG (cC cy ad τ) ad (182 + 6 * nb) σ) H → va_D A (wG (cC cy ad τ) ad (182 + 6 * nb) σ) → va_S A s.heap H locs → lv_has ls 6 [(0, .ref (ad 13)), (1, .int x1), (2, .int x2), (3, .int x3), (4, .int x4)] → W p l e (headSpec wsX3_readSum ({ frames := 3 + (d + 1), cells := 0, slots := 0, locals := 65 + 25 * (d + 1) })).room s m (#[.ref (ad 13), .int a1]) below meth c H locs 0 0 (MQ below (va_Qi (fun (r : Int32) (_ : Unit) => r = r0) (fun (_ : Unit) t => wAt (dC, dI) A (wG (cC cy ad τ) ad (182 + 6 * nb) σ9) t) A) (#[.ref (ad 13), .int a1]) s 0 0 A) (F0 m 45 ls []) := by
    intro k8 hk8 σ x1 x2 x3 x4 H locs ls h hP hD hS hl
    unfold fX3_readSum_45 at h
    refine lv_aload_n hx hb dX3_readSum_45 rfl (lv_at hl 0 rfl) ?_
    refine lv_dup hx hb dX3_readSum_46 rfl ?_
    refine ux_get (D := (dC, dI)) (ci := 3) (v := .int (σ.1 13 2)) (C := RX3) (T := TX3) (M := 8) (fs := (oLW ad (σ.1 13))) hx hb hts (fun _ h9 => List.mem_cons_of_mem _ (List.mem_append_right _ h9)) hown hK hP 13 (Nat.lt_of_lt_of_le (Nat.le_of_ble_eq_true rfl : 13 < 182) (Nat.le_add_right _ _)) (cC_13 _ _ _ _ _) rfl 2 (by decide) (hts (.fieldLink RX3 19 "SeatsRound$Law" "at" "I") (List.mem_of_getElem? (i := 2) rfl)) (fun _ h9 => h9) rfl dX3_readSum_47 ?_
    refine lv_iconst (v := 1) hx hb dX3_readSum_50 (by decide) ?_
    refine lv_iadd hx hb dX3_readSum_51 ?_
    refine ux_put (D := (dC, dI)) (ci := 3) (C := RX3) (T := TX3) (M := 8) (fs := (oLW ad (σ.1 13))) hx hb hts (fun _ h9 => List.mem_cons_of_mem _ (List.mem_append_right _ h9)) tyX3 tyX3_ok nmX3 hown hK hP hD hS 13 (Nat.lt_of_lt_of_le (Nat.le_of_ble_eq_true rfl : 13 < 182) (Nat.le_add_right _ _)) (cC_13 _ _ _ _ _) rfl 2 (by decide) (hts (.fieldLink RX3 19 "SeatsRound$Law" "at" "I") (List.mem_of_getElem? (i := 2) rfl)) (fun _ h9 => h9) rfl (tyX3_ok 2 (by decide)) rfl rfl (Nat.le_of_ble_eq_true rfl) (oC_13_2 _ _ _ _ _ _) h dX3_readSum_52 (fun σ2 H locs h hP hD hS => ?_)
    refine lv_aload_n hx hb dX3_readSum_55 rfl (lv_at hl 0 rfl) ?_
    refine lv_iload_n hx hb dX3_readSum_56 rfl (lv_at hl 1 rfl) ?_
    obtain ⟨r3, σ4, hf5, h⟩ := bsS h
    refine ux_calli (va_runV (As := [.int x1]) (rest := []) ⟨hx, hb, hml, hown, hts⟩ (hqX3_readProduct σ2 x1 H.size r3 σ4 hf5) (cwV 1 hts gX3_readSum_X3_readProduct rfl rfl rfl (by decide +kernel) ⟨by show (3 + d) + 1 ≤ 3 + (d + 1); omega, by show 8 + (6 + 11) + (65 + 25 * d) ≤ 65 + 25 * (d + 1); omega⟩) (wp_V hK hN hP hD (va_recv hK hP (ci := 3) (q0 := 13) rfl (wG_of (Nat.lt_of_lt_of_le (Nat.le_of_ble_eq_true rfl : 13 < 182) (Nat.le_add_right _ _)) (cC_13 _ _ _ _ _)))) rfl rfl hl.1 rfl (lv_room (Nat.le_of_ble_eq_true rfl)) dX3_readSum_57 ⟨Nat.le_of_ble_eq_true rfl, Nat.le_of_ble_eq_true rfl⟩) hD hS hA (fun H locs hP hD hS => ?_)
    refine lv_istore (lv' := [(5, .int r3), (0, .ref (ad 13)), (1, .int x1), (2, .int x2), (3, .int x3), (4, .int x4)]) hx hb dX3_readSum_60 hl (by decide) rfl (fun ls hl => ?_)
    have hl := lv_sub hl [1, 2, 3, 4, 5, 0] (l' := [(0, .ref (ad 13)), (1, .int x1), (2, .int x2), (3, .int x3), (4, .int x4), (5, .int r3)]) rfl
    refine lv_iload hx hb dX3_readSum_62 (lv_at hl 4 rfl) ?_
    refine lv_bipush (v := 43) hx hb dX3_readSum_64 (by decide) ?_
    refine lv_icmp_ne (tgt := 76) hx hb dX3_readSum_66 (by decide) (fun hcd => ?_) (fun hcd => ?_)
    · have h := cdN hcd h
      refine lv_iload_n hx hb dX3_readSum_76 rfl (lv_at hl 2 rfl) ?_
      refine lv_iload hx hb dX3_readSum_77 (lv_at hl 5 rfl) ?_
      refine lv_isub hx hb dX3_readSum_79 ?_
      exact w80 _ hk8 σ4 x1 x3 (x2 - r3) H locs ls h hP hD hS (lv_sub hl [0, 1, 3] rfl)
    · have h := cdP hcd h
      refine lv_iload_n hx hb dX3_readSum_69 rfl (lv_at hl 2 rfl) ?_
      refine lv_iload hx hb dX3_readSum_70 (lv_at hl 5 rfl) ?_
      refine lv_iadd hx hb dX3_readSum_72 ?_
      refine lv_goto (tgt := 80) hx hb dX3_readSum_73 (by decide) ?_
      exact w80 _ hk8 σ4 x1 x3 (x2 + r3) H locs ls h hP hD hS (lv_sub hl [0, 1, 3] rfl)
  have w8 : ∀ (n : Nat), ∀ (σ : S2) (x1 : Int32) (x2 : Int32) (x3 : Int32) (H : Heap) (locs : List Loc) (ls : Array Slot), fX3_readSum_8 τ qX3_readSum qX3_readProduct qX3_readOperand qX3_readBracket n σ x1 x2 x3 = some (r0, σ9) → va_P (dC, dI) vwCl (wG (cC cy ad τ) ad (182 + 6 * nb) σ) H → va_D A (wG (cC cy ad τ) ad (182 + 6 * nb) σ) → va_S A s.heap H locs → lv_has ls 6 [(0, .ref (ad 13)), (1, .int x1), (2, .int x2), (3, .int x3)] → W p l e (headSpec wsX3_readSum ({ frames := 3 + (d + 1), cells := 0, slots := 0, locals := 65 + 25 * (d + 1) })).room s m (#[.ref (ad 13), .int a1]) below meth c H locs 0 0 (MQ below (va_Qi (fun (r : Int32) (_ : Unit) => r = r0) (fun (_ : Unit) t => wAt (dC, dI) A (wG (cC cy ad τ) ad (182 + 6 * nb) σ9) t) A) (#[.ref (ad 13), .int a1]) s 0 0 A) (F0 m 8 ls []) := by
    intro n
    induction n with
    | zero => intro σ x1 x2 x3 H locs ls h; cases h
    | succ n ih =>
    intro σ x1 x2 x3 H locs ls h hP hD hS hl
    unfold fX3_readSum_8 at h
    refine lv_iload_n hx hb dX3_readSum_8 rfl (lv_at hl 3 rfl) ?_
    refine lv_bipush (v := 80) hx hb dX3_readSum_9 (by decide) ?_
    refine lv_icmp_ge (tgt := 87) hx hb dX3_readSum_11 (by decide) (fun hcd => ?_) (fun hcd => ?_)
    · have h := cdP hcd h
      refine lv_iload_n hx hb dX3_readSum_87 rfl (lv_at hl 2 rfl) ?_
      exact ux_iret hx hb hr h hP hD hS hlocks dX3_readSum_88
    · have h := cdN hcd h
      refine lv_aload_n hx hb dX3_readSum_14 rfl (lv_at hl 0 rfl) ?_
      refine ux_get (D := (dC, dI)) (ci := 3) (v := .int (σ.1 13 3)) (C := RX3) (T := TX3) (M := 8) (fs := (oLW ad (σ.1 13))) hx hb hts (fun _ h9 => List.mem_cons_of_mem _ (List.mem_append_right _ h9)) hown hK hP 13 (Nat.lt_of_lt_of_le (Nat.le_of_ble_eq_true rfl : 13 < 182) (Nat.le_add_right _ _)) (cC_13 _ _ _ _ _) rfl 3 (by decide) (hts (.fieldLink RX3 22 "SeatsRound$Law" "fault" "I") (List.mem_of_getElem? (i := 1) rfl)) (fun _ h9 => h9) rfl dX3_readSum_15 ?_
      refine lv_iconst (v := (-1)) hx hb dX3_readSum_18 (by decide) ?_
      refine lv_icmp_ne (tgt := 87) hx hb dX3_readSum_19 (by decide) (fun hcd => ?_) (fun hcd => ?_)
      · have h := cdN hcd h
        refine lv_iload_n hx hb dX3_readSum_87 rfl (lv_at hl 2 rfl) ?_
        exact ux_iret hx hb hr h hP hD hS hlocks dX3_readSum_88
      · have h := cdP hcd h
        refine lv_aload_n hx hb dX3_readSum_22 rfl (lv_at hl 0 rfl) ?_
        obtain ⟨r6, hf7, h⟩ := biS h
        refine ux_calli (va_runV (As := []) (rest := []) ⟨hx, hb, hml, hown, hts⟩ (tX3_sign l dC dI cy ad τ nb hτ σ H.size r6 hf7) (cwV 0 hts gX3_readSum_X3_sign rfl rfl rfl (by decide +kernel) ⟨by show 1 + 1 ≤ 3 + (d + 1); omega, by show 8 + (1 + 11) + 23 ≤ 65 + 25 * (d + 1); omega⟩) (wp_V hK hN hP hD (va_recv hK hP (ci := 3) (q0 := 13) rfl (wG_of (Nat.lt_of_lt_of_le (Nat.le_of_ble_eq_true rfl : 13 < 182) (Nat.le_add_right _ _)) (cC_13 _ _ _ _ _)))) rfl rfl hl.1 rfl (lv_room (Nat.le_of_ble_eq_true rfl)) dX3_readSum_23 ⟨Nat.le_of_ble_eq_true rfl, Nat.le_of_ble_eq_true rfl⟩) hD hS hA (fun H locs hP hD hS => ?_)
        refine lv_istore (lv' := [(4, .int r6), (0, .ref (ad 13)), (1, .int x1), (2, .int x2), (3, .int x3)]) hx hb dX3_readSum_26 hl (by decide) rfl (fun ls hl => ?_)
        have hl := lv_sub hl [1, 2, 3, 4, 0] (l' := [(0, .ref (ad 13)), (1, .int x1), (2, .int x2), (3, .int x3), (4, .int r6)]) rfl
        refine lv_iload hx hb dX3_readSum_28 (lv_at hl 4 rfl) ?_
        refine lv_bipush (v := 43) hx hb dX3_readSum_30 (by decide) ?_
        refine lv_icmp_eq (tgt := 45) hx hb dX3_readSum_32 (by decide) (fun hcd => ?_) (fun hcd => ?_)
        · have h := cdP hcd h
          exact w45 _ ih σ x1 x2 x3 r6 H locs ls h hP hD hS hl
        · have h := cdN hcd h
          refine lv_iload hx hb dX3_readSum_35 (lv_at hl 4 rfl) ?_
          refine lv_bipush (v := 45) hx hb dX3_readSum_37 (by decide) ?_
          refine lv_icmp_eq (tgt := 45) hx hb dX3_readSum_39 (by decide) (fun hcd => ?_) (fun hcd => ?_)
          · have h := cdP hcd h
            exact w45 _ ih σ x1 x2 x3 r6 H locs ls h hP hD hS hl
          · have h := cdN hcd h
            refine lv_goto (tgt := 87) hx hb dX3_readSum_42 (by decide) ?_
            refine lv_iload_n hx hb dX3_readSum_87 rfl (lv_at hl 2 rfl) ?_
            exact ux_iret hx hb hr h hP hD hS hlocks dX3_readSum_88
  have w0 : ∀ (σ : S2) (x1 : Int32) (H : Heap) (locs : List Loc) (ls : Array Slot), fX3_readSum_0 τ qX3_readSum qX3_readProduct qX3_readOperand qX3_readBracket σ x1 = some (r0, σ9) → va_P (dC, dI) vwCl (wG (cC cy ad τ) ad (182 + 6 * nb) σ) H → va_D A (wG (cC cy ad τ) ad (182 + 6 * nb) σ) → va_S A s.heap H locs → lv_has ls 6 [(0, .ref (ad 13)), (1, .int x1)] → W p l e (headSpec wsX3_readSum ({ frames := 3 + (d + 1), cells := 0, slots := 0, locals := 65 + 25 * (d + 1) })).room s m (#[.ref (ad 13), .int a1]) below meth c H locs 0 0 (MQ below (va_Qi (fun (r : Int32) (_ : Unit) => r = r0) (fun (_ : Unit) t => wAt (dC, dI) A (wG (cC cy ad τ) ad (182 + 6 * nb) σ9) t) A) (#[.ref (ad 13), .int a1]) s 0 0 A) (F0 m 0 ls []) := by
    intro σ x1 H locs ls h hP hD hS hl
    unfold fX3_readSum_0 at h
    refine lv_aload_n hx hb dX3_readSum_0 rfl (lv_at hl 0 rfl) ?_
    refine lv_iload_n hx hb dX3_readSum_1 rfl (lv_at hl 1 rfl) ?_
    obtain ⟨r8, σ9, hf10, h⟩ := bsS h
    refine ux_calli (va_runV (As := [.int x1]) (rest := []) ⟨hx, hb, hml, hown, hts⟩ (hqX3_readProduct σ x1 H.size r8 σ9 hf10) (cwV 1 hts gX3_readSum_X3_readProduct rfl rfl rfl (by decide +kernel) ⟨by show (3 + d) + 1 ≤ 3 + (d + 1); omega, by show 8 + (6 + 11) + (65 + 25 * d) ≤ 65 + 25 * (d + 1); omega⟩) (wp_V hK hN hP hD (va_recv hK hP (ci := 3) (q0 := 13) rfl (wG_of (Nat.lt_of_lt_of_le (Nat.le_of_ble_eq_true rfl : 13 < 182) (Nat.le_add_right _ _)) (cC_13 _ _ _ _ _)))) rfl rfl hl.1 rfl (lv_room (Nat.le_of_ble_eq_true rfl)) dX3_readSum_2 ⟨Nat.le_of_ble_eq_true rfl, Nat.le_of_ble_eq_true rfl⟩) hD hS hA (fun H locs hP hD hS => ?_)
    refine lv_istore_n (lv' := [(2, .int r8), (0, .ref (ad 13)), (1, .int x1)]) hx hb dX3_readSum_5 rfl hl (by decide) rfl (fun ls hl => ?_)
    have hl := lv_sub hl [1, 2, 0] (l' := [(0, .ref (ad 13)), (1, .int x1), (2, .int r8)]) rfl
    refine lv_iconst (v := 0) hx hb dX3_readSum_6 (by decide) ?_
    refine lv_istore_n (lv' := [(3, .int 0), (0, .ref (ad 13)), (1, .int x1), (2, .int r8)]) hx hb dX3_readSum_7 rfl hl (by decide) rfl (fun ls hl => ?_)
    have hl := lv_sub hl [1, 2, 3, 0] (l' := [(0, .ref (ad 13)), (1, .int x1), (2, .int r8), (3, .int 0)]) rfl
    exact w8 FU σ9 x1 r8 0 H locs ls h hP hD hS hl
  intro H locs ls h hP hD hS hl
  exact w0 σ a1 H locs ls h hP hD hS (lv_sub hl [0, 1] rfl)

