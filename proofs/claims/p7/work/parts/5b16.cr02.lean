set_option maxHeartbeats 4000000 in
set_option maxRecDepth 100000 in
theorem tX5_walk (l : Launch) (dC : Nat → ClassId) (dI : Nat → Nat → Nat) (cy : Nat → ClassId) (ad : Nat → Nat) (τ nb : Nat) (hτ : τ < nb) (σ : S2) (a1 : Int32) (sz : Nat) (r0 : Unit) (σ9 : S2) (h : fX5_walk τ σ a1 = some (r0, σ9)) : Met l yX5_walk wsX5_walk ({ frames := 4, cells := 0, slots := 0, locals := 90 }) (va_Pc [.ref (ad 27), .int a1] (wPre (dC, dI) cy (wG (cC cy ad τ) ad (182 + 6 * nb) σ) sz)) (va_Qv (fun (_ : Unit) => True) (fun (_ : Unit) t => wAt (dC, dI) (va_A (wG (cC cy ad τ) ad (182 + 6 * nb) σ) sz) (wG (cC cy ad τ) ad (182 + 6 * nb) σ9) t) (va_A (wG (cC cy ad τ) ad (182 + 6 * nb) σ) sz)) 0 0 (va_A (wG (cC cy ad τ) ad (182 + 6 * nb) σ) sz) := by
  refine Met.ofW (cc := cX5_walk) (maxL := 5) (ret := none) (by decide) rfl ?_
  intro p e s m args below meth c s₁ B hml hv
  obtain ⟨rfl, hsz, hP, hK, hD0, hN⟩ := hv
  have hx := B.exec
  have hb := B.bytes
  have hr := B.returns
  have hts := atoms_spec (ws := wsX5_walk) B.pre
  have hown : s.vm.findClass RX5 = some m.cls := findClass_of_methodNamed B.named
  have hlocks := B.notSynchronized
  subst hsz
  have hD := hD0.self (sz := s.heap.size)
  generalize hAe : va_A (wG (cC cy ad τ) ad (182 + 6 * nb) σ) s.heap.size = A at hD ⊢
  have hA : ∀ q : Nat, s.heap.size ≤ q → A q := fun q h => by rw [← hAe]; exact Or.inr h
  have hS : va_S A s.heap s.heap [] := va_S.rf
  have hl := lv_entry ([.ref (ad 27), .int a1]) (n := 5) (Nat.le_of_ble_eq_true rfl)
  rw [lg_entry_eq]
  generalize (lg_sl ([.ref (ad 27), .int a1]) ++ List.replicate (5 - (lg_sl ([.ref (ad 27), .int a1])).length) Slot.unset).toArray = ls at hl ⊢
  have hl : lv_has ls 5 [(0, .ref (ad 27)), (1, .int a1)] := hl
  unfold fX5_walk at h
  clear hAe hD0
  suffices HH : ∀ (H : Heap) (locs : List Loc) (ls : Array Slot), fX5_walk_0 τ σ a1 = some (r0, σ9) → va_P (dC, dI) vwCl (wG (cC cy ad τ) ad (182 + 6 * nb) σ) H → va_D A (wG (cC cy ad τ) ad (182 + 6 * nb) σ) → va_S A s.heap H locs → lv_has ls 5 [(0, .ref (ad 27)), (1, .int a1)] → W p l e (headSpec wsX5_walk ({ frames := 4, cells := 0, slots := 0, locals := 90 })).room s m (#[.ref (ad 27), .int a1]) below meth c H locs 0 0 (MQ below (va_Qv (fun (_ : Unit) => True) (fun (_ : Unit) t => wAt (dC, dI) A (wG (cC cy ad τ) ad (182 + 6 * nb) σ9) t) A) (#[.ref (ad 27), .int a1]) s 0 0 A) (F0 m 0 ls []) from HH s.heap [] ls h hP hD hS hl
  have w9 : ∀ (n : Nat), ∀ (σ : S2) (x1 : Int32) (x2 : Int32) (x3 : Int32) (H : Heap) (locs : List Loc) (ls : Array Slot), fX5_walk_9 τ n σ x1 x2 x3 = some (r0, σ9) → va_P (dC, dI) vwCl (wG (cC cy ad τ) ad (182 + 6 * nb) σ) H → va_D A (wG (cC cy ad τ) ad (182 + 6 * nb) σ) → va_S A s.heap H locs → lv_has ls 5 [(0, .ref (ad 27)), (1, .int x1), (2, .int x2), (3, .int x3)] → W p l e (headSpec wsX5_walk ({ frames := 4, cells := 0, slots := 0, locals := 90 })).room s m (#[.ref (ad 27), .int a1]) below meth c H locs 0 0 (MQ below (va_Qv (fun (_ : Unit) => True) (fun (_ : Unit) t => wAt (dC, dI) A (wG (cC cy ad τ) ad (182 + 6 * nb) σ9) t) A) (#[.ref (ad 27), .int a1]) s 0 0 A) (F0 m 9 ls []) := by
    intro n
    induction n with
    | zero => intro σ x1 x2 x3 H locs ls h; cases h
    | succ n ih =>
    intro σ x1 x2 x3 H locs ls h hP hD hS hl
    unfold fX5_walk_9 at h
    refine lv_iload_n hx hb dX5_walk_9 rfl (lv_at hl 3 rfl) ?_
    refine lv_aload_n hx hb dX5_walk_10 rfl (lv_at hl 0 rfl) ?_
    refine ux_get (D := (dC, dI)) (ci := 5) (v := .int (σ.1 27 1)) (C := RX5) (T := TX5) (M := 10) (fs := (oOR ad (σ.1 27))) hx hb hts (fun _ h9 => List.mem_cons_of_mem _ (List.mem_append_left _ (List.mem_append_right _ h9))) hown hK hP 27 (Nat.lt_of_lt_of_le (Nat.le_of_ble_eq_true rfl : 27 < 182) (Nat.le_add_right _ _)) (cC_27 _ _ _ _ _) rfl 1 (by decide) (hts (.fieldLink RX5 15 "SeatsRound$Orders" "toldCount" "I") (List.mem_of_getElem? (i := 2) rfl)) (fun _ h9 => h9) rfl dX5_walk_11 ?_
    refine lv_icmp_ge (tgt := 63) hx hb dX5_walk_14 (by decide) (fun hcd => ?_) (fun hcd => ?_)
    · have h := cdP hcd h
      exact ux_vret hx hb hr h hP hD hS hlocks dX5_walk_63
    · have h := cdN hcd h
      refine lv_iload_n hx hb dX5_walk_17 rfl (lv_at hl 2 rfl) ?_
      refine lv_iload_n hx hb dX5_walk_18 rfl (lv_at hl 1 rfl) ?_
      refine lv_icmp_eq (tgt := 63) hx hb dX5_walk_19 (by decide) (fun hcd => ?_) (fun hcd => ?_)
      · have h := cdP hcd h
        exact ux_vret hx hb hr h hP hD hS hlocks dX5_walk_63
      · have h := cdN hcd h
        refine lv_aload_n hx hb dX5_walk_22 rfl (lv_at hl 0 rfl) ?_
        refine lv_iload_n hx hb dX5_walk_23 rfl (lv_at hl 2 rfl) ?_
        obtain ⟨r1, hf2, h⟩ := biS h
        refine ux_calli (va_runV (As := [.int x2]) (rest := []) ⟨hx, hb, hml, hown, hts⟩ (tX5_nextOf l dC dI cy ad τ nb hτ σ x2 H.size r1 hf2) (cwV 1 hts gX5_walk_X5_nextOf rfl rfl rfl (by decide +kernel) ⟨Nat.le_of_ble_eq_true rfl, Nat.le_of_ble_eq_true rfl⟩) (wp_V hK hN hP hD (va_recv hK hP (ci := 5) (q0 := 27) rfl (wG_of (Nat.lt_of_lt_of_le (Nat.le_of_ble_eq_true rfl : 27 < 182) (Nat.le_add_right _ _)) (cC_27 _ _ _ _ _)))) rfl rfl hl.1 rfl (lv_room (Nat.le_of_ble_eq_true rfl)) dX5_walk_24 ⟨Nat.le_of_ble_eq_true rfl, Nat.le_of_ble_eq_true rfl⟩) hD hS hA (fun H locs hP hD hS => ?_)
        refine lv_istore (lv' := [(4, .int r1), (0, .ref (ad 27)), (1, .int x1), (2, .int x2), (3, .int x3)]) hx hb dX5_walk_27 hl (by decide) rfl (fun ls hl => ?_)
        have hl := lv_sub hl [1, 2, 3, 4, 0] (l' := [(0, .ref (ad 27)), (1, .int x1), (2, .int x2), (3, .int x3), (4, .int r1)]) rfl
        refine lv_aload_n hx hb dX5_walk_29 rfl (lv_at hl 0 rfl) ?_
        refine ux_get (D := (dC, dI)) (ci := 5) (v := .ref (ad 29)) (C := RX5) (T := TX5) (M := 10) (fs := (oOR ad (σ.1 27))) hx hb hts (fun _ h9 => List.mem_cons_of_mem _ (List.mem_append_left _ (List.mem_append_right _ h9))) hown hK hP 27 (Nat.lt_of_lt_of_le (Nat.le_of_ble_eq_true rfl : 27 < 182) (Nat.le_add_right _ _)) (cC_27 _ _ _ _ _) rfl 2 (by decide) (hts (.fieldLink RX5 19 "SeatsRound$Orders" "path" "[I") (List.mem_of_getElem? (i := 3) rfl)) (fun _ h9 => h9) rfl dX5_walk_30 ?_
        refine lv_aload_n hx hb dX5_walk_33 rfl (lv_at hl 0 rfl) ?_
        refine ux_get (D := (dC, dI)) (ci := 5) (v := .int (σ.1 27 3)) (C := RX5) (T := TX5) (M := 10) (fs := (oOR ad (σ.1 27))) hx hb hts (fun _ h9 => List.mem_cons_of_mem _ (List.mem_append_left _ (List.mem_append_right _ h9))) hown hK hP 27 (Nat.lt_of_lt_of_le (Nat.le_of_ble_eq_true rfl : 27 < 182) (Nat.le_add_right _ _)) (cC_27 _ _ _ _ _) rfl 3 (by decide) (hts (.fieldLink RX5 22 "SeatsRound$Orders" "pathLength" "I") (List.mem_of_getElem? (i := 1) rfl)) (fun _ h9 => h9) rfl dX5_walk_34 ?_
        refine lv_iload hx hb dX5_walk_37 (lv_at hl 4 rfl) ?_
        refine ux_iast hx hb hK hP hD hS 29 0 (Nat.lt_of_lt_of_le (Nat.le_of_ble_eq_true rfl : 29 < 182) (Nat.le_add_right _ _)) (fun _ => (cC_29 _ _ _ _ _)) rfl h dX5_walk_39 (fun σ3 H locs h hP hD hS => ?_)
        refine lv_aload_n hx hb dX5_walk_40 rfl (lv_at hl 0 rfl) ?_
        refine lv_dup hx hb dX5_walk_41 rfl ?_
        refine ux_get (D := (dC, dI)) (ci := 5) (v := .int (σ3.1 27 3)) (C := RX5) (T := TX5) (M := 10) (fs := (oOR ad (σ3.1 27))) hx hb hts (fun _ h9 => List.mem_cons_of_mem _ (List.mem_append_left _ (List.mem_append_right _ h9))) hown hK hP 27 (Nat.lt_of_lt_of_le (Nat.le_of_ble_eq_true rfl : 27 < 182) (Nat.le_add_right _ _)) (cC_27 _ _ _ _ _) rfl 3 (by decide) (hts (.fieldLink RX5 22 "SeatsRound$Orders" "pathLength" "I") (List.mem_of_getElem? (i := 1) rfl)) (fun _ h9 => h9) rfl dX5_walk_42 ?_
        refine lv_iconst (v := 1) hx hb dX5_walk_45 (by decide) ?_
        refine lv_iadd hx hb dX5_walk_46 ?_
        refine ux_put (D := (dC, dI)) (ci := 5) (C := RX5) (T := TX5) (M := 10) (fs := (oOR ad (σ3.1 27))) hx hb hts (fun _ h9 => List.mem_cons_of_mem _ (List.mem_append_left _ (List.mem_append_right _ h9))) tyX5 tyX5_ok nmX5 hown hK hP hD hS 27 (Nat.lt_of_lt_of_le (Nat.le_of_ble_eq_true rfl : 27 < 182) (Nat.le_add_right _ _)) (cC_27 _ _ _ _ _) rfl 3 (by decide) (hts (.fieldLink RX5 22 "SeatsRound$Orders" "pathLength" "I") (List.mem_of_getElem? (i := 1) rfl)) (fun _ h9 => h9) rfl (tyX5_ok 3 (by decide)) rfl rfl (Nat.le_of_ble_eq_true rfl) (oC_27_3 _ _ _ _ _ _) h dX5_walk_47 (fun σ4 H locs h hP hD hS => ?_)
        refine lv_iload_n hx hb dX5_walk_50 rfl (lv_at hl 2 rfl) ?_
        refine lv_iconst (v := 1) hx hb dX5_walk_51 (by decide) ?_
        refine lv_iload hx hb dX5_walk_52 (lv_at hl 4 rfl) ?_
        refine lv_ishl hx hb dX5_walk_54 ?_
        refine lv_ior hx hb dX5_walk_55 ?_
        refine lv_topi (fun v5 ev5 => ?_)
        have h := nmS h ev5
        refine lv_istore_n (lv' := [(2, .int v5), (0, .ref (ad 27)), (1, .int x1), (3, .int x3), (4, .int r1)]) hx hb dX5_walk_56 rfl hl (by decide) rfl (fun ls hl => ?_)
        have hl := lv_sub hl [1, 2, 0, 3, 4] (l' := [(0, .ref (ad 27)), (1, .int x1), (2, .int v5), (3, .int x3), (4, .int r1)]) rfl
        obtain ⟨v6, ev6⟩ : ∃ y : Int32, y = x3 + 1 := ⟨_, rfl⟩
        have h := nmS h ev6
        refine lv_iinc (v := v6) (lv' := [(3, .int v6), (0, .ref (ad 27)), (1, .int x1), (2, .int v5), (4, .int r1)]) hx hb dX5_walk_57 hl (k := 3) rfl (by rw [ev6]; rfl) (by decide) rfl (fun ls hl => ?_)
        have hl := lv_sub hl [1, 2, 3, 0, 4] (l' := [(0, .ref (ad 27)), (1, .int x1), (2, .int v5), (3, .int v6), (4, .int r1)]) rfl
        refine lv_goto (tgt := 9) hx hb dX5_walk_60 (by decide) ?_
        exact ih σ4 x1 v5 v6 H locs ls h hP hD hS (lv_sub hl [0, 1, 2, 3] rfl)
  have w0 : ∀ (σ : S2) (x1 : Int32) (H : Heap) (locs : List Loc) (ls : Array Slot), fX5_walk_0 τ σ x1 = some (r0, σ9) → va_P (dC, dI) vwCl (wG (cC cy ad τ) ad (182 + 6 * nb) σ) H → va_D A (wG (cC cy ad τ) ad (182 + 6 * nb) σ) → va_S A s.heap H locs → lv_has ls 5 [(0, .ref (ad 27)), (1, .int x1)] → W p l e (headSpec wsX5_walk ({ frames := 4, cells := 0, slots := 0, locals := 90 })).room s m (#[.ref (ad 27), .int a1]) below meth c H locs 0 0 (MQ below (va_Qv (fun (_ : Unit) => True) (fun (_ : Unit) t => wAt (dC, dI) A (wG (cC cy ad τ) ad (182 + 6 * nb) σ9) t) A) (#[.ref (ad 27), .int a1]) s 0 0 A) (F0 m 0 ls []) := by
    intro σ x1 H locs ls h hP hD hS hl
    unfold fX5_walk_0 at h
    refine lv_iconst (v := 0) hx hb dX5_walk_0 (by decide) ?_
    refine lv_istore_n (lv' := [(2, .int 0), (0, .ref (ad 27)), (1, .int x1)]) hx hb dX5_walk_1 rfl hl (by decide) rfl (fun ls hl => ?_)
    have hl := lv_sub hl [1, 2, 0] (l' := [(0, .ref (ad 27)), (1, .int x1), (2, .int 0)]) rfl
    refine lv_aload_n hx hb dX5_walk_2 rfl (lv_at hl 0 rfl) ?_
    refine lv_iconst (v := 0) hx hb dX5_walk_3 (by decide) ?_
    refine ux_put (D := (dC, dI)) (ci := 5) (C := RX5) (T := TX5) (M := 10) (fs := (oOR ad (σ.1 27))) hx hb hts (fun _ h9 => List.mem_cons_of_mem _ (List.mem_append_left _ (List.mem_append_right _ h9))) tyX5 tyX5_ok nmX5 hown hK hP hD hS 27 (Nat.lt_of_lt_of_le (Nat.le_of_ble_eq_true rfl : 27 < 182) (Nat.le_add_right _ _)) (cC_27 _ _ _ _ _) rfl 3 (by decide) (hts (.fieldLink RX5 22 "SeatsRound$Orders" "pathLength" "I") (List.mem_of_getElem? (i := 1) rfl)) (fun _ h9 => h9) rfl (tyX5_ok 3 (by decide)) rfl rfl (Nat.le_of_ble_eq_true rfl) (oC_27_3 _ _ _ _ _ _) h dX5_walk_4 (fun σ7 H locs h hP hD hS => ?_)
    refine lv_iconst (v := 0) hx hb dX5_walk_7 (by decide) ?_
    refine lv_istore_n (lv' := [(3, .int 0), (0, .ref (ad 27)), (1, .int x1), (2, .int 0)]) hx hb dX5_walk_8 rfl hl (by decide) rfl (fun ls hl => ?_)
    have hl := lv_sub hl [1, 2, 3, 0] (l' := [(0, .ref (ad 27)), (1, .int x1), (2, .int 0), (3, .int 0)]) rfl
    exact w9 FU σ7 x1 0 0 H locs ls h hP hD hS hl
  intro H locs ls h hP hD hS hl
  exact w0 σ a1 H locs ls h hP hD hS (lv_sub hl [0, 1] rfl)

set_option maxHeartbeats 4000000 in
set_option maxRecDepth 100000 in
theorem tX5_leastFrom (l : Launch) (dC : Nat → ClassId) (dI : Nat → Nat → Nat) (cy : Nat → ClassId) (ad : Nat → Nat) (τ nb : Nat) (hτ : τ < nb) (b1 : Nat) (hb1 : b1 < nb) (σ : S2)  (sz : Nat) (r0 : Int32) (σ9 : S2) (h : fX5_leastFrom τ b1 σ = some (r0, σ9)) : Met l yX5_leastFrom wsX5_leastFrom ({ frames := 31, cells := 0, slots := 0, locals := 763 }) (va_Pc [.ref (ad 27), .ref (ad (182 + 6 * b1)), .ref (ad 182)] (wPre (dC, dI) cy (wG (cC cy ad τ) ad (182 + 6 * nb) σ) sz)) (va_Qi (fun (r : Int32) (_ : Unit) => r = r0) (fun (_ : Unit) t => wAt (dC, dI) (va_A (wG (cC cy ad τ) ad (182 + 6 * nb) σ) sz) (wG (cC cy ad τ) ad (182 + 6 * nb) σ9) t) (va_A (wG (cC cy ad τ) ad (182 + 6 * nb) σ) sz)) 0 0 (va_A (wG (cC cy ad τ) ad (182 + 6 * nb) σ) sz) := by
  refine Met.ofW (cc := cX5_leastFrom) (maxL := 5) (ret := (some .int)) (by decide) rfl ?_
  intro p e s m args below meth c s₁ B hml hv
  obtain ⟨rfl, hsz, hP, hK, hD0, hN⟩ := hv
  have hx := B.exec
  have hb := B.bytes
  have hr := B.returns
  have hts := atoms_spec (ws := wsX5_leastFrom) B.pre
  have hown : s.vm.findClass RX5 = some m.cls := findClass_of_methodNamed B.named
  have hlocks := B.notSynchronized
  subst hsz
  have hD := hD0.self (sz := s.heap.size)
  generalize hAe : va_A (wG (cC cy ad τ) ad (182 + 6 * nb) σ) s.heap.size = A at hD ⊢
  have hA : ∀ q : Nat, s.heap.size ≤ q → A q := fun q h => by rw [← hAe]; exact Or.inr h
  have hS : va_S A s.heap s.heap [] := va_S.rf
  have hl := lv_entry ([.ref (ad 27), .ref (ad (182 + 6 * b1)), .ref (ad 182)]) (n := 5) (Nat.le_of_ble_eq_true rfl)
  rw [lg_entry_eq]
  generalize (lg_sl ([.ref (ad 27), .ref (ad (182 + 6 * b1)), .ref (ad 182)]) ++ List.replicate (5 - (lg_sl ([.ref (ad 27), .ref (ad (182 + 6 * b1)), .ref (ad 182)])).length) Slot.unset).toArray = ls at hl ⊢
  have hl : lv_has ls 5 [(0, .ref (ad 27)), (1, .ref (ad (182 + 6 * b1))), (2, .ref (ad 182))] := hl
  unfold fX5_leastFrom at h
  clear hAe hD0
  suffices HH : ∀ (H : Heap) (locs : List Loc) (ls : Array Slot), fX5_leastFrom_0 τ b1 σ = some (r0, σ9) → va_P (dC, dI) vwCl (wG (cC cy ad τ) ad (182 + 6 * nb) σ) H → va_D A (wG (cC cy ad τ) ad (182 + 6 * nb) σ) → va_S A s.heap H locs → lv_has ls 5 [(0, .ref (ad 27)), (1, .ref (ad (182 + 6 * b1))), (2, .ref (ad 182))] → W p l e (headSpec wsX5_leastFrom ({ frames := 31, cells := 0, slots := 0, locals := 763 })).room s m (#[.ref (ad 27), .ref (ad (182 + 6 * b1)), .ref (ad 182)]) below meth c H locs 0 0 (MQ below (va_Qi (fun (r : Int32) (_ : Unit) => r = r0) (fun (_ : Unit) t => wAt (dC, dI) A (wG (cC cy ad τ) ad (182 + 6 * nb) σ9) t) A) (#[.ref (ad 27), .ref (ad (182 + 6 * b1)), .ref (ad 182)]) s 0 0 A) (F0 m 0 ls []) from HH s.heap [] ls h hP hD hS hl
  have w62 : ∀ (k12 : S2 → Int32 → Int32 → Option (Int32 × S2)) (hk12 : ∀ (σ : S2) (x3 : Int32) (x4 : Int32) (H : Heap) (locs : List Loc) (ls : Array Slot), k12 σ x3 x4 = some (r0, σ9) → va_P (dC, dI) vwCl (wG (cC cy ad τ) ad (182 + 6 * nb) σ) H → va_D A (wG (cC cy ad τ) ad (182 + 6 * nb) σ) → va_S A s.heap H locs → lv_has ls 5 [(0, .ref (ad 27)), (1, .ref (ad (182 + 6 * b1))), (2, .ref (ad 182)), (3, .int x3), (4, .int x4)] → W p l e (headSpec wsX5_leastFrom ({ frames := 31, cells := 0, slots := 0, locals := 763 })).room s m (#[.ref (ad 27), .ref (ad (182 + 6 * b1)), .ref (ad 182)]) below meth c H locs 0 0 (MQ below (va_Qi (fun (r : Int32) (_ : Unit) => r = r0) (fun (_ : Unit) t => wAt (dC, dI) A (wG (cC cy ad τ) ad (182 + 6 * nb) σ9) t) A) (#[.ref (ad 27), .ref (ad (182 + 6 * b1)), .ref (ad 182)]) s 0 0 A) (F0 m 12 ls [])) , ∀ (σ : S2) (x3 : Int32) (x4 : Int32) (H : Heap) (locs : List Loc) (ls : Array Slot), fX5_leastFrom_62 τ b1 k12 σ x3 x4 = some (r0, σ9) → va_P (dC, dI) vwCl (wG (cC cy ad τ) ad (182 + 6 * nb) σ) H → va_D A (wG (cC cy ad τ) ad (182 + 6 * nb) σ) → va_S A s.heap H locs → lv_has ls 5 [(0, .ref (ad 27)), (1, .ref (ad (182 + 6 * b1))), (2, .ref (ad 182)), (3, .int x3), (4, .int x4)] → W p l e (headSpec wsX5_leastFrom ({ frames := 31, cells := 0, slots := 0, locals := 763 })).room s m (#[.ref (ad 27), .ref (ad (182 + 6 * b1)), .ref (ad 182)]) below meth c H locs 0 0 (MQ below (va_Qi (fun (r : Int32) (_ : Unit) => r = r0) (fun (_ : Unit) t => wAt (dC, dI) A (wG (cC cy ad τ) ad (182 + 6 * nb) σ9) t) A) (#[.ref (ad 27), .ref (ad (182 + 6 * b1)), .ref (ad 182)]) s 0 0 A) (F0 m 62 ls []) := by
    intro k12 hk12 σ x3 x4 H locs ls h hP hD hS hl
    unfold fX5_leastFrom_62 at h
    obtain ⟨v1, ev1⟩ : ∃ y : Int32, y = x4 + (-1) := ⟨_, rfl⟩
    have h := nmS h ev1
    refine lv_iinc (v := v1) (lv' := [(4, .int v1), (0, .ref (ad 27)), (1, .ref (ad (182 + 6 * b1))), (2, .ref (ad 182)), (3, .int x3)]) hx hb dX5_leastFrom_62 hl (k := 4) rfl (by rw [ev1]; rfl) (by decide) rfl (fun ls hl => ?_)
    have hl := lv_sub hl [1, 2, 3, 4, 0] (l' := [(0, .ref (ad 27)), (1, .ref (ad (182 + 6 * b1))), (2, .ref (ad 182)), (3, .int x3), (4, .int v1)]) rfl
    refine lv_goto (tgt := 12) hx hb dX5_leastFrom_65 (by decide) ?_
    exact hk12 σ x3 v1 H locs ls h hP hD hS hl
  have w50 : ∀ (k12 : S2 → Int32 → Int32 → Option (Int32 × S2)) (hk12 : ∀ (σ : S2) (x3 : Int32) (x4 : Int32) (H : Heap) (locs : List Loc) (ls : Array Slot), k12 σ x3 x4 = some (r0, σ9) → va_P (dC, dI) vwCl (wG (cC cy ad τ) ad (182 + 6 * nb) σ) H → va_D A (wG (cC cy ad τ) ad (182 + 6 * nb) σ) → va_S A s.heap H locs → lv_has ls 5 [(0, .ref (ad 27)), (1, .ref (ad (182 + 6 * b1))), (2, .ref (ad 182)), (3, .int x3), (4, .int x4)] → W p l e (headSpec wsX5_leastFrom ({ frames := 31, cells := 0, slots := 0, locals := 763 })).room s m (#[.ref (ad 27), .ref (ad (182 + 6 * b1)), .ref (ad 182)]) below meth c H locs 0 0 (MQ below (va_Qi (fun (r : Int32) (_ : Unit) => r = r0) (fun (_ : Unit) t => wAt (dC, dI) A (wG (cC cy ad τ) ad (182 + 6 * nb) σ9) t) A) (#[.ref (ad 27), .ref (ad (182 + 6 * b1)), .ref (ad 182)]) s 0 0 A) (F0 m 12 ls [])) , ∀ (σ : S2) (x3 : Int32) (x4 : Int32) (s0 : Int32) (s1 : Int32) (H : Heap) (locs : List Loc) (ls : Array Slot), fX5_leastFrom_50 τ b1 k12 σ x3 x4 s0 s1 = some (r0, σ9) → va_P (dC, dI) vwCl (wG (cC cy ad τ) ad (182 + 6 * nb) σ) H → va_D A (wG (cC cy ad τ) ad (182 + 6 * nb) σ) → va_S A s.heap H locs → lv_has ls 5 [(0, .ref (ad 27)), (1, .ref (ad (182 + 6 * b1))), (2, .ref (ad 182)), (3, .int x3), (4, .int x4)] → W p l e (headSpec wsX5_leastFrom ({ frames := 31, cells := 0, slots := 0, locals := 763 })).room s m (#[.ref (ad 27), .ref (ad (182 + 6 * b1)), .ref (ad 182)]) below meth c H locs 0 0 (MQ below (va_Qi (fun (r : Int32) (_ : Unit) => r = r0) (fun (_ : Unit) t => wAt (dC, dI) A (wG (cC cy ad τ) ad (182 + 6 * nb) σ9) t) A) (#[.ref (ad 27), .ref (ad (182 + 6 * b1)), .ref (ad 182)]) s 0 0 A) (F0 m 50 ls [.int s0, .int s1, .ref (ad 31)]) := by
    intro k12 hk12 σ x3 x4 s0 s1 H locs ls h hP hD hS hl
    unfold fX5_leastFrom_50 at h
    refine ux_iast hx hb hK hP hD hS 31 0 (Nat.lt_of_lt_of_le (Nat.le_of_ble_eq_true rfl : 31 < 182) (Nat.le_add_right _ _)) (fun _ => (cC_31 _ _ _ _ _)) rfl h dX5_leastFrom_50 (fun σ2 H locs h hP hD hS => ?_)
    refine lv_goto (tgt := 62) hx hb dX5_leastFrom_51 (by decide) ?_
    exact w62 _ hk12 σ2 x3 x4 H locs ls h hP hD hS hl
  have w12 : ∀ (n : Nat), ∀ (σ : S2) (x3 : Int32) (x4 : Int32) (H : Heap) (locs : List Loc) (ls : Array Slot), fX5_leastFrom_12 τ b1 n σ x3 x4 = some (r0, σ9) → va_P (dC, dI) vwCl (wG (cC cy ad τ) ad (182 + 6 * nb) σ) H → va_D A (wG (cC cy ad τ) ad (182 + 6 * nb) σ) → va_S A s.heap H locs → lv_has ls 5 [(0, .ref (ad 27)), (1, .ref (ad (182 + 6 * b1))), (2, .ref (ad 182)), (3, .int x3), (4, .int x4)] → W p l e (headSpec wsX5_leastFrom ({ frames := 31, cells := 0, slots := 0, locals := 763 })).room s m (#[.ref (ad 27), .ref (ad (182 + 6 * b1)), .ref (ad 182)]) below meth c H locs 0 0 (MQ below (va_Qi (fun (r : Int32) (_ : Unit) => r = r0) (fun (_ : Unit) t => wAt (dC, dI) A (wG (cC cy ad τ) ad (182 + 6 * nb) σ9) t) A) (#[.ref (ad 27), .ref (ad (182 + 6 * b1)), .ref (ad 182)]) s 0 0 A) (F0 m 12 ls []) := by
    intro n
    induction n with
    | zero => intro σ x3 x4 H locs ls h; cases h
    | succ n ih =>
    intro σ x3 x4 H locs ls h hP hD hS hl
    unfold fX5_leastFrom_12 at h
    refine lv_iload hx hb dX5_leastFrom_12 (lv_at hl 4 rfl) ?_
    refine lv_if_lt (tgt := 68) hx hb dX5_leastFrom_14 (by decide) (fun hcd => ?_) (fun hcd => ?_)
    · have h := cdP hcd h
      refine lv_aload_n hx hb dX5_leastFrom_68 rfl (lv_at hl 0 rfl) ?_
      refine ux_get (D := (dC, dI)) (ci := 5) (v := .ref (ad 31)) (C := RX5) (T := TX5) (M := 10) (fs := (oOR ad (σ.1 27))) hx hb hts (fun _ h9 => List.mem_cons_of_mem _ (List.mem_append_left _ (List.mem_append_left _ (List.mem_append_left _ (List.mem_append_left _ (List.mem_append_left _ (List.mem_append_right _ h9))))))) hown hK hP 27 (Nat.lt_of_lt_of_le (Nat.le_of_ble_eq_true rfl : 27 < 182) (Nat.le_add_right _ _)) (cC_27 _ _ _ _ _) rfl 5 (by decide) (hts (.fieldLink RX5 30 "SeatsRound$Orders" "least" "[I") (List.mem_of_getElem? (i := 2) rfl)) (fun _ h9 => h9) rfl dX5_leastFrom_69 ?_
      refine lv_iconst (v := 0) hx hb dX5_leastFrom_72 (by decide) ?_
      refine ux_iald hx hb hK hP 31 0 (Nat.lt_of_lt_of_le (Nat.le_of_ble_eq_true rfl : 31 < 182) (Nat.le_add_right _ _)) (cC_31 _ _ _ _ _) rfl h dX5_leastFrom_73 (fun v3 h => ?_)
      refine lv_iconst (v := (-1)) hx hb dX5_leastFrom_74 (by decide) ?_
      refine lv_icmp_ne (tgt := 80) hx hb dX5_leastFrom_75 (by decide) (fun hcd => ?_) (fun hcd => ?_)
      · have h := cdN hcd h
        refine lv_aload_n hx hb dX5_leastFrom_80 rfl (lv_at hl 0 rfl) ?_
        refine lv_iload_n hx hb dX5_leastFrom_81 rfl (lv_at hl 3 rfl) ?_
        obtain ⟨r4, σ5, hf6, h⟩ := bsS h
        refine ux_callv (va_runV (As := [.int x3]) (rest := []) ⟨hx, hb, hml, hown, hts⟩ (tX5_walk l dC dI cy ad τ nb hτ σ x3 H.size r4 σ5 hf6) (cwV 1 hts gX5_leastFrom_X5_walk rfl rfl rfl (by decide +kernel) ⟨Nat.le_of_ble_eq_true rfl, Nat.le_of_ble_eq_true rfl⟩) (wp_V hK hN hP hD (va_recv hK hP (ci := 5) (q0 := 27) rfl (wG_of (Nat.lt_of_lt_of_le (Nat.le_of_ble_eq_true rfl : 27 < 182) (Nat.le_add_right _ _)) (cC_27 _ _ _ _ _)))) rfl rfl hl.1 rfl (lv_room (Nat.le_of_ble_eq_true rfl)) dX5_leastFrom_82 ⟨Nat.le_of_ble_eq_true rfl, Nat.le_of_ble_eq_true rfl⟩) hD hS hA (fun H locs hP hD hS => ?_)
        refine lv_aload_n hx hb dX5_leastFrom_85 rfl (lv_at hl 0 rfl) ?_
        refine lv_iconst (v := 0) hx hb dX5_leastFrom_86 (by decide) ?_
        refine ux_put (D := (dC, dI)) (ci := 5) (C := RX5) (T := TX5) (M := 10) (fs := (oOR ad (σ5.1 27))) hx hb hts (fun _ h9 => List.mem_cons_of_mem _ (List.mem_append_left _ (List.mem_append_left _ (List.mem_append_left _ (List.mem_append_left _ (List.mem_append_left _ (List.mem_append_right _ h9))))))) tyX5 tyX5_ok nmX5 hown hK hP hD hS 27 (Nat.lt_of_lt_of_le (Nat.le_of_ble_eq_true rfl : 27 < 182) (Nat.le_add_right _ _)) (cC_27 _ _ _ _ _) rfl 1 (by decide) (hts (.fieldLink RX5 15 "SeatsRound$Orders" "toldCount" "I") (List.mem_of_getElem? (i := 1) rfl)) (fun _ h9 => h9) rfl (tyX5_ok 1 (by decide)) rfl rfl (Nat.le_of_ble_eq_true rfl) (oC_27_1 _ _ _ _ _ _) h dX5_leastFrom_87 (fun σ7 H locs h hP hD hS => ?_)
        refine lv_aload_n hx hb dX5_leastFrom_90 rfl (lv_at hl 0 rfl) ?_
        refine ux_get (D := (dC, dI)) (ci := 5) (v := .ref (ad 31)) (C := RX5) (T := TX5) (M := 10) (fs := (oOR ad (σ7.1 27))) hx hb hts (fun _ h9 => List.mem_cons_of_mem _ (List.mem_append_left _ (List.mem_append_left _ (List.mem_append_left _ (List.mem_append_left _ (List.mem_append_left _ (List.mem_append_right _ h9))))))) hown hK hP 27 (Nat.lt_of_lt_of_le (Nat.le_of_ble_eq_true rfl : 27 < 182) (Nat.le_add_right _ _)) (cC_27 _ _ _ _ _) rfl 5 (by decide) (hts (.fieldLink RX5 30 "SeatsRound$Orders" "least" "[I") (List.mem_of_getElem? (i := 2) rfl)) (fun _ h9 => h9) rfl dX5_leastFrom_91 ?_
        refine lv_iconst (v := 0) hx hb dX5_leastFrom_94 (by decide) ?_
        refine ux_iald hx hb hK hP 31 0 (Nat.lt_of_lt_of_le (Nat.le_of_ble_eq_true rfl : 31 < 182) (Nat.le_add_right _ _)) (cC_31 _ _ _ _ _) rfl h dX5_leastFrom_95 (fun v8 h => ?_)
        exact ux_iret hx hb hr h hP hD hS hlocks dX5_leastFrom_96
      · have h := cdP hcd h
        refine lv_iconst (v := (-1)) hx hb dX5_leastFrom_78 (by decide) ?_
        exact ux_iret hx hb hr h hP hD hS hlocks dX5_leastFrom_79
    · have h := cdN hcd h
      refine lv_aload_n hx hb dX5_leastFrom_17 rfl (lv_at hl 0 rfl) ?_
      refine lv_aload_n hx hb dX5_leastFrom_18 rfl (lv_at hl 1 rfl) ?_
      refine lv_aload_n hx hb dX5_leastFrom_19 rfl (lv_at hl 2 rfl) ?_
      refine lv_iload hx hb dX5_leastFrom_20 (lv_at hl 4 rfl) ?_
      obtain ⟨r9, σ10, hf11, h⟩ := bsS h
      refine ux_calli (va_runV (As := [.ref (ad (182 + 6 * b1)), .ref (ad 182), .int x4]) (rest := []) ⟨hx, hb, hml, hown, hts⟩ (tX5_seatSet l dC dI cy ad τ nb hτ b1 (by omega) σ x4 H.size r9 σ10 hf11) (cwV 3 hts gX5_leastFrom_X5_seatSet rfl rfl rfl (by decide +kernel) ⟨Nat.le_of_ble_eq_true rfl, Nat.le_of_ble_eq_true rfl⟩) (wp_V hK hN hP hD (va_recv hK hP (ci := 5) (q0 := 27) rfl (wG_of (Nat.lt_of_lt_of_le (Nat.le_of_ble_eq_true rfl : 27 < 182) (Nat.le_add_right _ _)) (cC_27 _ _ _ _ _)))) rfl rfl hl.1 rfl (lv_room (Nat.le_of_ble_eq_true rfl)) dX5_leastFrom_22 ⟨Nat.le_of_ble_eq_true rfl, Nat.le_of_ble_eq_true rfl⟩) hD hS hA (fun H locs hP hD hS => ?_)
      refine lv_if_eq (tgt := 54) hx hb dX5_leastFrom_25 (by decide) (fun hcd => ?_) (fun hcd => ?_)
      · have h := cdP hcd h
        refine lv_aload_n hx hb dX5_leastFrom_54 rfl (lv_at hl 0 rfl) ?_
        refine ux_get (D := (dC, dI)) (ci := 5) (v := .ref (ad 31)) (C := RX5) (T := TX5) (M := 10) (fs := (oOR ad (σ10.1 27))) hx hb hts (fun _ h9 => List.mem_cons_of_mem _ (List.mem_append_left _ (List.mem_append_left _ (List.mem_append_left _ (List.mem_append_left _ (List.mem_append_left _ (List.mem_append_right _ h9))))))) hown hK hP 27 (Nat.lt_of_lt_of_le (Nat.le_of_ble_eq_true rfl : 27 < 182) (Nat.le_add_right _ _)) (cC_27 _ _ _ _ _) rfl 5 (by decide) (hts (.fieldLink RX5 30 "SeatsRound$Orders" "least" "[I") (List.mem_of_getElem? (i := 2) rfl)) (fun _ h9 => h9) rfl dX5_leastFrom_55 ?_
        refine lv_iload hx hb dX5_leastFrom_58 (lv_at hl 4 rfl) ?_
        refine lv_iconst (v := (-1)) hx hb dX5_leastFrom_60 (by decide) ?_
        refine ux_iast hx hb hK hP hD hS 31 0 (Nat.lt_of_lt_of_le (Nat.le_of_ble_eq_true rfl : 31 < 182) (Nat.le_add_right _ _)) (fun _ => (cC_31 _ _ _ _ _)) rfl h dX5_leastFrom_61 (fun σ12 H locs h hP hD hS => ?_)
        exact w62 _ ih σ12 x3 x4 H locs ls h hP hD hS hl
      · have h := cdN hcd h
        refine lv_aload_n hx hb dX5_leastFrom_28 rfl (lv_at hl 0 rfl) ?_
        refine ux_get (D := (dC, dI)) (ci := 5) (v := .ref (ad 31)) (C := RX5) (T := TX5) (M := 10) (fs := (oOR ad (σ10.1 27))) hx hb hts (fun _ h9 => List.mem_cons_of_mem _ (List.mem_append_left _ (List.mem_append_left _ (List.mem_append_left _ (List.mem_append_left _ (List.mem_append_left _ (List.mem_append_right _ h9))))))) hown hK hP 27 (Nat.lt_of_lt_of_le (Nat.le_of_ble_eq_true rfl : 27 < 182) (Nat.le_add_right _ _)) (cC_27 _ _ _ _ _) rfl 5 (by decide) (hts (.fieldLink RX5 30 "SeatsRound$Orders" "least" "[I") (List.mem_of_getElem? (i := 2) rfl)) (fun _ h9 => h9) rfl dX5_leastFrom_29 ?_
        refine lv_iload hx hb dX5_leastFrom_32 (lv_at hl 4 rfl) ?_
        refine lv_iload hx hb dX5_leastFrom_34 (lv_at hl 4 rfl) ?_
        refine lv_iload_n hx hb dX5_leastFrom_36 rfl (lv_at hl 3 rfl) ?_
        refine lv_icmp_ne (tgt := 44) hx hb dX5_leastFrom_37 (by decide) (fun hcd => ?_) (fun hcd => ?_)
        · have h := cdN hcd h
          refine lv_aload_n hx hb dX5_leastFrom_44 rfl (lv_at hl 0 rfl) ?_
          refine lv_iload hx hb dX5_leastFrom_45 (lv_at hl 4 rfl) ?_
          obtain ⟨r13, hf14, h⟩ := biS h
          refine ux_calli (va_runV (As := [.int x4]) (rest := [.int x4, .ref (ad 31)]) ⟨hx, hb, hml, hown, hts⟩ (tX5_leastOnward l dC dI cy ad τ nb hτ σ10 x4 H.size r13 hf14) (cwV 1 hts gX5_leastFrom_X5_leastOnward rfl rfl rfl (by decide +kernel) ⟨Nat.le_of_ble_eq_true rfl, Nat.le_of_ble_eq_true rfl⟩) (wp_V hK hN hP hD (va_recv hK hP (ci := 5) (q0 := 27) rfl (wG_of (Nat.lt_of_lt_of_le (Nat.le_of_ble_eq_true rfl : 27 < 182) (Nat.le_add_right _ _)) (cC_27 _ _ _ _ _)))) rfl rfl hl.1 rfl (lv_room (Nat.le_of_ble_eq_true rfl)) dX5_leastFrom_47 ⟨Nat.le_of_ble_eq_true rfl, Nat.le_of_ble_eq_true rfl⟩) hD hS hA (fun H locs hP hD hS => ?_)
          exact w50 _ ih σ10 x3 x4 r13 x4 H locs ls h hP hD hS hl
        · have h := cdP hcd h
          refine lv_iconst (v := 0) hx hb dX5_leastFrom_40 (by decide) ?_
          refine lv_goto (tgt := 50) hx hb dX5_leastFrom_41 (by decide) ?_
          exact w50 _ ih σ10 x3 x4 0 x4 H locs ls h hP hD hS hl
  have w0 : ∀ (σ : S2)  (H : Heap) (locs : List Loc) (ls : Array Slot), fX5_leastFrom_0 τ b1 σ = some (r0, σ9) → va_P (dC, dI) vwCl (wG (cC cy ad τ) ad (182 + 6 * nb) σ) H → va_D A (wG (cC cy ad τ) ad (182 + 6 * nb) σ) → va_S A s.heap H locs → lv_has ls 5 [(0, .ref (ad 27)), (1, .ref (ad (182 + 6 * b1))), (2, .ref (ad 182))] → W p l e (headSpec wsX5_leastFrom ({ frames := 31, cells := 0, slots := 0, locals := 763 })).room s m (#[.ref (ad 27), .ref (ad (182 + 6 * b1)), .ref (ad 182)]) below meth c H locs 0 0 (MQ below (va_Qi (fun (r : Int32) (_ : Unit) => r = r0) (fun (_ : Unit) t => wAt (dC, dI) A (wG (cC cy ad τ) ad (182 + 6 * nb) σ9) t) A) (#[.ref (ad 27), .ref (ad (182 + 6 * b1)), .ref (ad 182)]) s 0 0 A) (F0 m 0 ls []) := by
    intro σ H locs ls h hP hD hS hl
    unfold fX5_leastFrom_0 at h
    refine lv_iconst (v := 1) hx hb dX5_leastFrom_0 (by decide) ?_
    refine lv_aload_n hx hb dX5_leastFrom_1 rfl (lv_at hl 0 rfl) ?_
    refine ux_get (D := (dC, dI)) (ci := 5) (v := .int (σ.1 27 1)) (C := RX5) (T := TX5) (M := 10) (fs := (oOR ad (σ.1 27))) hx hb hts (fun _ h9 => List.mem_cons_of_mem _ (List.mem_append_left _ (List.mem_append_left _ (List.mem_append_left _ (List.mem_append_left _ (List.mem_append_left _ (List.mem_append_right _ h9))))))) hown hK hP 27 (Nat.lt_of_lt_of_le (Nat.le_of_ble_eq_true rfl : 27 < 182) (Nat.le_add_right _ _)) (cC_27 _ _ _ _ _) rfl 1 (by decide) (hts (.fieldLink RX5 15 "SeatsRound$Orders" "toldCount" "I") (List.mem_of_getElem? (i := 1) rfl)) (fun _ h9 => h9) rfl dX5_leastFrom_2 ?_
    refine lv_ishl hx hb dX5_leastFrom_5 ?_
    refine lv_iconst (v := 1) hx hb dX5_leastFrom_6 (by decide) ?_
    refine lv_isub hx hb dX5_leastFrom_7 ?_
    refine lv_topi (fun v15 ev15 => ?_)
    have h := nmS h ev15
    refine lv_istore_n (lv' := [(3, .int v15), (0, .ref (ad 27)), (1, .ref (ad (182 + 6 * b1))), (2, .ref (ad 182))]) hx hb dX5_leastFrom_8 rfl hl (by decide) rfl (fun ls hl => ?_)
    have hl := lv_sub hl [1, 2, 3, 0] (l' := [(0, .ref (ad 27)), (1, .ref (ad (182 + 6 * b1))), (2, .ref (ad 182)), (3, .int v15)]) rfl
    refine lv_iload_n hx hb dX5_leastFrom_9 rfl (lv_at hl 3 rfl) ?_
    refine lv_istore (lv' := [(4, .int v15), (0, .ref (ad 27)), (1, .ref (ad (182 + 6 * b1))), (2, .ref (ad 182)), (3, .int v15)]) hx hb dX5_leastFrom_10 hl (by decide) rfl (fun ls hl => ?_)
    have hl := lv_sub hl [1, 2, 3, 4, 0] (l' := [(0, .ref (ad 27)), (1, .ref (ad (182 + 6 * b1))), (2, .ref (ad 182)), (3, .int v15), (4, .int v15)]) rfl
    exact w12 FU σ v15 v15 H locs ls h hP hD hS hl
  intro H locs ls h hP hD hS hl
  exact w0 σ H locs ls h hP hD hS (lv_sub hl [0, 1, 2] rfl)

set_option maxHeartbeats 4000000 in
set_option maxRecDepth 100000 in
theorem tX6_isKeptFor (l : Launch) (dC : Nat → ClassId) (dI : Nat → Nat → Nat) (cy : Nat → ClassId) (ad : Nat → Nat) (τ nb : Nat) (hτ : τ < nb) (σ : S2) (a1 : Int32) (a2 : Int32) (sz : Nat) (r0 : Int32) (σ9 : S2) (h : fX6_isKeptFor τ σ a1 a2 = some (r0, σ9)) : Met l yX6_isKeptFor wsX6_isKeptFor ({ frames := 2, cells := 0, slots := 0, locals := 44 }) (va_Pc [.ref (ad 18), .int a1, .int a2] (wPre (dC, dI) cy (wG (cC cy ad τ) ad (182 + 6 * nb) σ) sz)) (va_Qi (fun (r : Int32) (_ : Unit) => r = r0) (fun (_ : Unit) t => wAt (dC, dI) (va_A (wG (cC cy ad τ) ad (182 + 6 * nb) σ) sz) (wG (cC cy ad τ) ad (182 + 6 * nb) σ9) t) (va_A (wG (cC cy ad τ) ad (182 + 6 * nb) σ) sz)) 0 0 (va_A (wG (cC cy ad τ) ad (182 + 6 * nb) σ) sz) := by
  refine Met.ofW (cc := cX6_isKeptFor) (maxL := 5) (ret := (some .boolean)) (by decide) rfl ?_
  intro p e s m args below meth c s₁ B hml hv
  obtain ⟨rfl, hsz, hP, hK, hD0, hN⟩ := hv
  have hx := B.exec
  have hb := B.bytes
  have hr := B.returns
  have hts := atoms_spec (ws := wsX6_isKeptFor) B.pre
  have hown : s.vm.findClass RX6 = some m.cls := findClass_of_methodNamed B.named
  have hlocks := B.notSynchronized
  subst hsz
  have hD := hD0.self (sz := s.heap.size)
  generalize hAe : va_A (wG (cC cy ad τ) ad (182 + 6 * nb) σ) s.heap.size = A at hD ⊢
  have hA : ∀ q : Nat, s.heap.size ≤ q → A q := fun q h => by rw [← hAe]; exact Or.inr h
  have hS : va_S A s.heap s.heap [] := va_S.rf
  have hl := lv_entry ([.ref (ad 18), .int a1, .int a2]) (n := 5) (Nat.le_of_ble_eq_true rfl)
  rw [lg_entry_eq]
  generalize (lg_sl ([.ref (ad 18), .int a1, .int a2]) ++ List.replicate (5 - (lg_sl ([.ref (ad 18), .int a1, .int a2])).length) Slot.unset).toArray = ls at hl ⊢
  have hl : lv_has ls 5 [(0, .ref (ad 18)), (1, .int a1), (2, .int a2)] := hl
  unfold fX6_isKeptFor at h
  clear hAe hD0
  suffices HH : ∀ (H : Heap) (locs : List Loc) (ls : Array Slot), fX6_isKeptFor_0 τ σ a1 a2 = some (r0, σ9) → va_P (dC, dI) vwCl (wG (cC cy ad τ) ad (182 + 6 * nb) σ) H → va_D A (wG (cC cy ad τ) ad (182 + 6 * nb) σ) → va_S A s.heap H locs → lv_has ls 5 [(0, .ref (ad 18)), (1, .int a1), (2, .int a2)] → W p l e (headSpec wsX6_isKeptFor ({ frames := 2, cells := 0, slots := 0, locals := 44 })).room s m (#[.ref (ad 18), .int a1, .int a2]) below meth c H locs 0 0 (MQ below (va_Qi (fun (r : Int32) (_ : Unit) => r = r0) (fun (_ : Unit) t => wAt (dC, dI) A (wG (cC cy ad τ) ad (182 + 6 * nb) σ9) t) A) (#[.ref (ad 18), .int a1, .int a2]) s 0 0 A) (F0 m 0 ls []) from HH s.heap [] ls h hP hD hS hl
  have w106 : ∀ (k2 : S2 → Int32 → Int32 → Int32 → Option (Int32 × S2)) (hk2 : ∀ (σ : S2) (x1 : Int32) (x2 : Int32) (x3 : Int32) (H : Heap) (locs : List Loc) (ls : Array Slot), k2 σ x1 x2 x3 = some (r0, σ9) → va_P (dC, dI) vwCl (wG (cC cy ad τ) ad (182 + 6 * nb) σ) H → va_D A (wG (cC cy ad τ) ad (182 + 6 * nb) σ) → va_S A s.heap H locs → lv_has ls 5 [(0, .ref (ad 18)), (1, .int x1), (2, .int x2), (3, .int x3)] → W p l e (headSpec wsX6_isKeptFor ({ frames := 2, cells := 0, slots := 0, locals := 44 })).room s m (#[.ref (ad 18), .int a1, .int a2]) below meth c H locs 0 0 (MQ below (va_Qi (fun (r : Int32) (_ : Unit) => r = r0) (fun (_ : Unit) t => wAt (dC, dI) A (wG (cC cy ad τ) ad (182 + 6 * nb) σ9) t) A) (#[.ref (ad 18), .int a1, .int a2]) s 0 0 A) (F0 m 2 ls [])) , ∀ (σ : S2) (x1 : Int32) (x2 : Int32) (x3 : Int32) (H : Heap) (locs : List Loc) (ls : Array Slot), fX6_isKeptFor_106 τ k2 σ x1 x2 x3 = some (r0, σ9) → va_P (dC, dI) vwCl (wG (cC cy ad τ) ad (182 + 6 * nb) σ) H → va_D A (wG (cC cy ad τ) ad (182 + 6 * nb) σ) → va_S A s.heap H locs → lv_has ls 5 [(0, .ref (ad 18)), (1, .int x1), (2, .int x2), (3, .int x3)] → W p l e (headSpec wsX6_isKeptFor ({ frames := 2, cells := 0, slots := 0, locals := 44 })).room s m (#[.ref (ad 18), .int a1, .int a2]) below meth c H locs 0 0 (MQ below (va_Qi (fun (r : Int32) (_ : Unit) => r = r0) (fun (_ : Unit) t => wAt (dC, dI) A (wG (cC cy ad τ) ad (182 + 6 * nb) σ9) t) A) (#[.ref (ad 18), .int a1, .int a2]) s 0 0 A) (F0 m 106 ls []) := by
    intro k2 hk2 σ x1 x2 x3 H locs ls h hP hD hS hl
    unfold fX6_isKeptFor_106 at h
    obtain ⟨v1, ev1⟩ : ∃ y : Int32, y = x3 + 1 := ⟨_, rfl⟩
    have h := nmS h ev1
    refine lv_iinc (v := v1) (lv' := [(3, .int v1), (0, .ref (ad 18)), (1, .int x1), (2, .int x2)]) hx hb dX6_isKeptFor_106 hl (k := 3) rfl (by rw [ev1]; rfl) (by decide) rfl (fun ls hl => ?_)
    have hl := lv_sub hl [1, 2, 3, 0] (l' := [(0, .ref (ad 18)), (1, .int x1), (2, .int x2), (3, .int v1)]) rfl
    refine lv_goto (tgt := 2) hx hb dX6_isKeptFor_109 (by decide) ?_
    exact hk2 σ x1 x2 v1 H locs ls h hP hD hS hl
  have w79 : ∀ (σ : S2) (x1 : Int32) (x2 : Int32) (x4 : Int32) (H : Heap) (locs : List Loc) (ls : Array Slot), fX6_isKeptFor_79 τ σ x1 x2 x4 = some (r0, σ9) → va_P (dC, dI) vwCl (wG (cC cy ad τ) ad (182 + 6 * nb) σ) H → va_D A (wG (cC cy ad τ) ad (182 + 6 * nb) σ) → va_S A s.heap H locs → lv_has ls 5 [(0, .ref (ad 18)), (1, .int x1), (2, .int x2), (4, .int x4)] → W p l e (headSpec wsX6_isKeptFor ({ frames := 2, cells := 0, slots := 0, locals := 44 })).room s m (#[.ref (ad 18), .int a1, .int a2]) below meth c H locs 0 0 (MQ below (va_Qi (fun (r : Int32) (_ : Unit) => r = r0) (fun (_ : Unit) t => wAt (dC, dI) A (wG (cC cy ad τ) ad (182 + 6 * nb) σ9) t) A) (#[.ref (ad 18), .int a1, .int a2]) s 0 0 A) (F0 m 79 ls []) := by
    intro σ x1 x2 x4 H locs ls h hP hD hS hl
    unfold fX6_isKeptFor_79 at h
    refine lv_aload_n hx hb dX6_isKeptFor_79 rfl (lv_at hl 0 rfl) ?_
    refine ux_get (D := (dC, dI)) (ci := 6) (v := .ref (ad 20)) (C := RX6) (T := TX6) (M := 12) (fs := (oPC ad (σ.1 18))) hx hb hts (fun _ h9 => List.mem_cons_of_mem _ (List.mem_append_left _ (List.mem_append_left _ (List.mem_append_right _ h9)))) hown hK hP 18 (Nat.lt_of_lt_of_le (Nat.le_of_ble_eq_true rfl : 18 < 182) (Nat.le_add_right _ _)) (cC_18 _ _ _ _ _) rfl 1 (by decide) (hts (.fieldLink RX6 16 "SeatsRound$Parcels" "kept" "[[I") (List.mem_of_getElem? (i := 5) rfl)) (fun _ h9 => h9) rfl dX6_isKeptFor_80 ?_
    refine lv_iload hx hb dX6_isKeptFor_83 (lv_at hl 3 rfl) ?_
    obtain ⟨hii2, h⟩ := ckS h
    have hri2 := vp_lt hii2
    refine vz_aldg hx hb hK hP 20 6 (wG_of (Nat.lt_of_lt_of_le (Nat.le_of_ble_eq_true rfl : 20 < 182) (Nat.le_add_right _ _)) (cC_20 _ _ _ _ _)) rfl hii2 (if_pos hri2) dX6_isKeptFor_85 ?_
    refine lv_iload_n hx hb dX6_isKeptFor_86 rfl (lv_at hl 2 rfl) ?_
    refine lv_aload_n hx hb dX6_isKeptFor_87 rfl (lv_at hl 0 rfl) ?_
    refine ux_get (D := (dC, dI)) (ci := 6) (v := .ref (ad 24)) (C := RX6) (T := TX6) (M := 12) (fs := (oPC ad (σ.1 18))) hx hb hts (fun _ h9 => List.mem_cons_of_mem _ (List.mem_append_left _ (List.mem_append_left _ (List.mem_append_right _ h9)))) hown hK hP 18 (Nat.lt_of_lt_of_le (Nat.le_of_ble_eq_true rfl : 18 < 182) (Nat.le_add_right _ _)) (cC_18 _ _ _ _ _) rfl 5 (by decide) (hts (.fieldLink RX6 28 "SeatsRound$Parcels" "latest" "[I") (List.mem_of_getElem? (i := 7) rfl)) (fun _ h9 => h9) rfl dX6_isKeptFor_88 ?_
    refine lv_iload_n hx hb dX6_isKeptFor_91 rfl (lv_at hl 2 rfl) ?_
    refine ux_iald hx hb hK hP 24 0 (Nat.lt_of_lt_of_le (Nat.le_of_ble_eq_true rfl : 24 < 182) (Nat.le_add_right _ _)) (cC_24 _ _ _ _ _) rfl h dX6_isKeptFor_92 (fun v3 h => ?_)
    refine ux_iast hx hb hK hP hD hS (96 + Int32.toNatClampNeg x4) 0 (by omega) (fun _ => (cC_r2 _ _ _ _ _ _ (by omega))) rfl h dX6_isKeptFor_93 (fun σ4 H locs h hP hD hS => ?_)
    refine lv_aload_n hx hb dX6_isKeptFor_94 rfl (lv_at hl 0 rfl) ?_
    refine ux_get (D := (dC, dI)) (ci := 6) (v := .ref (ad 21)) (C := RX6) (T := TX6) (M := 12) (fs := (oPC ad (σ4.1 18))) hx hb hts (fun _ h9 => List.mem_cons_of_mem _ (List.mem_append_left _ (List.mem_append_left _ (List.mem_append_right _ h9)))) hown hK hP 18 (Nat.lt_of_lt_of_le (Nat.le_of_ble_eq_true rfl : 18 < 182) (Nat.le_add_right _ _)) (cC_18 _ _ _ _ _) rfl 2 (by decide) (hts (.fieldLink RX6 19 "SeatsRound$Parcels" "keptFor" "[[I") (List.mem_of_getElem? (i := 6) rfl)) (fun _ h9 => h9) rfl dX6_isKeptFor_95 ?_
    refine lv_iload hx hb dX6_isKeptFor_98 (lv_at hl 3 rfl) ?_
    obtain ⟨hii5, h⟩ := ckS h
    have hri5 := vp_lt hii5
    refine vz_aldg hx hb hK hP 21 6 (wG_of (Nat.lt_of_lt_of_le (Nat.le_of_ble_eq_true rfl : 21 < 182) (Nat.le_add_right _ _)) (cC_21 _ _ _ _ _)) rfl hii5 (if_pos hri5) dX6_isKeptFor_100 ?_
    refine lv_iload_n hx hb dX6_isKeptFor_101 rfl (lv_at hl 2 rfl) ?_
    refine lv_iload_n hx hb dX6_isKeptFor_102 rfl (lv_at hl 1 rfl) ?_
    refine ux_iast hx hb hK hP hD hS (108 + Int32.toNatClampNeg x4) 0 (by omega) (fun _ => (cC_r3 _ _ _ _ _ _ (by omega))) rfl h dX6_isKeptFor_103 (fun σ6 H locs h hP hD hS => ?_)
    refine lv_iconst (v := 1) hx hb dX6_isKeptFor_104 (by decide) ?_
    exact ux_zret hx hb hr rfl h hP hD hS hlocks dX6_isKeptFor_105
  have w2 : ∀ (n : Nat), ∀ (σ : S2) (x1 : Int32) (x2 : Int32) (x3 : Int32) (H : Heap) (locs : List Loc) (ls : Array Slot), fX6_isKeptFor_2 τ n σ x1 x2 x3 = some (r0, σ9) → va_P (dC, dI) vwCl (wG (cC cy ad τ) ad (182 + 6 * nb) σ) H → va_D A (wG (cC cy ad τ) ad (182 + 6 * nb) σ) → va_S A s.heap H locs → lv_has ls 5 [(0, .ref (ad 18)), (1, .int x1), (2, .int x2), (3, .int x3)] → W p l e (headSpec wsX6_isKeptFor ({ frames := 2, cells := 0, slots := 0, locals := 44 })).room s m (#[.ref (ad 18), .int a1, .int a2]) below meth c H locs 0 0 (MQ below (va_Qi (fun (r : Int32) (_ : Unit) => r = r0) (fun (_ : Unit) t => wAt (dC, dI) A (wG (cC cy ad τ) ad (182 + 6 * nb) σ9) t) A) (#[.ref (ad 18), .int a1, .int a2]) s 0 0 A) (F0 m 2 ls []) := by
    intro n
    induction n with
    | zero => intro σ x1 x2 x3 H locs ls h; cases h
    | succ n ih =>
    intro σ x1 x2 x3 H locs ls h hP hD hS hl
    unfold fX6_isKeptFor_2 at h
    refine lv_iload_n hx hb dX6_isKeptFor_2 rfl (lv_at hl 3 rfl) ?_
    refine lv_aload_n hx hb dX6_isKeptFor_3 rfl (lv_at hl 0 rfl) ?_
    refine ux_get (D := (dC, dI)) (ci := 6) (v := .ref (ad 14)) (C := RX6) (T := TX6) (M := 12) (fs := (oPC ad (σ.1 18))) hx hb hts (fun _ h9 => List.mem_cons_of_mem _ (List.mem_append_left _ (List.mem_append_left _ (List.mem_append_right _ h9)))) hown hK hP 18 (Nat.lt_of_lt_of_le (Nat.le_of_ble_eq_true rfl : 18 < 182) (Nat.le_add_right _ _)) (cC_18 _ _ _ _ _) rfl 11 (by decide) (hts (.fieldLink RX6 50 "SeatsRound$Parcels" "choice" "LSeatsRound$Choice;") (List.mem_of_getElem? (i := 1) rfl)) (fun _ h9 => h9) rfl dX6_isKeptFor_4 ?_
    refine ux_get (D := (dC, dI)) (ci := 1) (v := .int (σ.1 14 2)) (C := RX1) (T := TX1) (M := 9) (fs := (oCH ad (σ.1 14))) hx hb hts (fun _ h9 => List.mem_cons_of_mem _ (List.mem_append_left _ (List.mem_append_right _ h9))) hown hK hP 14 (Nat.lt_of_lt_of_le (Nat.le_of_ble_eq_true rfl : 14 < 182) (Nat.le_add_right _ _)) (cC_14 _ _ _ _ _) rfl 2 (by decide) (hts (.fieldLink RX6 107 "SeatsRound$Choice" "pickCount" "I") (List.mem_of_getElem? (i := 2) rfl)) (fun _ h9 => h9) rfl dX6_isKeptFor_7 ?_
    refine lv_icmp_ge (tgt := 112) hx hb dX6_isKeptFor_10 (by decide) (fun hcd => ?_) (fun hcd => ?_)
    · have h := cdP hcd h
      refine lv_iconst (v := 0) hx hb dX6_isKeptFor_112 (by decide) ?_
      exact ux_zret hx hb hr rfl h hP hD hS hlocks dX6_isKeptFor_113
    · have h := cdN hcd h
      refine lv_aload_n hx hb dX6_isKeptFor_13 rfl (lv_at hl 0 rfl) ?_
      refine ux_get (D := (dC, dI)) (ci := 6) (v := .ref (ad 14)) (C := RX6) (T := TX6) (M := 12) (fs := (oPC ad (σ.1 18))) hx hb hts (fun _ h9 => List.mem_cons_of_mem _ (List.mem_append_left _ (List.mem_append_left _ (List.mem_append_right _ h9)))) hown hK hP 18 (Nat.lt_of_lt_of_le (Nat.le_of_ble_eq_true rfl : 18 < 182) (Nat.le_add_right _ _)) (cC_18 _ _ _ _ _) rfl 11 (by decide) (hts (.fieldLink RX6 50 "SeatsRound$Parcels" "choice" "LSeatsRound$Choice;") (List.mem_of_getElem? (i := 1) rfl)) (fun _ h9 => h9) rfl dX6_isKeptFor_14 ?_
      refine ux_get (D := (dC, dI)) (ci := 1) (v := .ref (ad 15)) (C := RX1) (T := TX1) (M := 9) (fs := (oCH ad (σ.1 14))) hx hb hts (fun _ h9 => List.mem_cons_of_mem _ (List.mem_append_left _ (List.mem_append_right _ h9))) hown hK hP 14 (Nat.lt_of_lt_of_le (Nat.le_of_ble_eq_true rfl : 14 < 182) (Nat.le_add_right _ _)) (cC_14 _ _ _ _ _) rfl 0 (by decide) (hts (.fieldLink RX6 110 "SeatsRound$Choice" "picks" "[I") (List.mem_of_getElem? (i := 3) rfl)) (fun _ h9 => h9) rfl dX6_isKeptFor_17 ?_
      refine lv_iload_n hx hb dX6_isKeptFor_20 rfl (lv_at hl 3 rfl) ?_
      refine ux_iald hx hb hK hP 15 0 (Nat.lt_of_lt_of_le (Nat.le_of_ble_eq_true rfl : 15 < 182) (Nat.le_add_right _ _)) (cC_15 _ _ _ _ _) rfl h dX6_isKeptFor_21 (fun v7 h => ?_)
      refine lv_istore (lv' := [(4, .int v7), (0, .ref (ad 18)), (1, .int x1), (2, .int x2), (3, .int x3)]) hx hb dX6_isKeptFor_22 hl (by decide) rfl (fun ls hl => ?_)
      have hl := lv_sub hl [1, 2, 3, 4, 0] (l' := [(0, .ref (ad 18)), (1, .int x1), (2, .int x2), (3, .int x3), (4, .int v7)]) rfl
      refine lv_aload_n hx hb dX6_isKeptFor_24 rfl (lv_at hl 0 rfl) ?_
      refine ux_get (D := (dC, dI)) (ci := 6) (v := .ref (ad 14)) (C := RX6) (T := TX6) (M := 12) (fs := (oPC ad (σ.1 18))) hx hb hts (fun _ h9 => List.mem_cons_of_mem _ (List.mem_append_left _ (List.mem_append_left _ (List.mem_append_right _ h9)))) hown hK hP 18 (Nat.lt_of_lt_of_le (Nat.le_of_ble_eq_true rfl : 18 < 182) (Nat.le_add_right _ _)) (cC_18 _ _ _ _ _) rfl 11 (by decide) (hts (.fieldLink RX6 50 "SeatsRound$Parcels" "choice" "LSeatsRound$Choice;") (List.mem_of_getElem? (i := 1) rfl)) (fun _ h9 => h9) rfl dX6_isKeptFor_25 ?_
      refine lv_iload hx hb dX6_isKeptFor_28 (lv_at hl 4 rfl) ?_
      obtain ⟨r8, hf9, h⟩ := biS h
      refine ux_calli (va_runV (As := [.int v7]) (rest := []) ⟨hx, hb, hml, hown, hts⟩ (tX1_isChosen l dC dI cy ad τ nb hτ σ v7 H.size r8 hf9) (cwV 1 hts gX6_isKeptFor_X1_isChosen rfl rfl rfl (by decide +kernel) ⟨Nat.le_of_ble_eq_true rfl, Nat.le_of_ble_eq_true rfl⟩) (wp_V hK hN hP hD (va_recv hK hP (ci := 1) (q0 := 14) rfl (wG_of (Nat.lt_of_lt_of_le (Nat.le_of_ble_eq_true rfl : 14 < 182) (Nat.le_add_right _ _)) (cC_14 _ _ _ _ _)))) rfl rfl hl.1 rfl (lv_room (Nat.le_of_ble_eq_true rfl)) dX6_isKeptFor_30 ⟨Nat.le_of_ble_eq_true rfl, Nat.le_of_ble_eq_true rfl⟩) hD hS hA (fun H locs hP hD hS => ?_)
      refine lv_if_ne (tgt := 106) hx hb dX6_isKeptFor_33 (by decide) (fun hcd => ?_) (fun hcd => ?_)
      · have h := cdN hcd h
        exact w106 _ ih σ x1 x2 x3 H locs ls h hP hD hS (lv_sub hl [0, 1, 2, 3] rfl)
      · have h := cdP hcd h
        refine lv_aload_n hx hb dX6_isKeptFor_36 rfl (lv_at hl 0 rfl) ?_
        refine ux_get (D := (dC, dI)) (ci := 6) (v := .ref (ad 7)) (C := RX6) (T := TX6) (M := 12) (fs := (oPC ad (σ.1 18))) hx hb hts (fun _ h9 => List.mem_cons_of_mem _ (List.mem_append_left _ (List.mem_append_left _ (List.mem_append_right _ h9)))) hown hK hP 18 (Nat.lt_of_lt_of_le (Nat.le_of_ble_eq_true rfl : 18 < 182) (Nat.le_add_right _ _)) (cC_18 _ _ _ _ _) rfl 9 (by decide) (hts (.fieldLink RX6 42 "SeatsRound$Parcels" "keepers" "LSeatsRound$Keepers;") (List.mem_of_getElem? (i := 4) rfl)) (fun _ h9 => h9) rfl dX6_isKeptFor_37 ?_
        refine lv_iload hx hb dX6_isKeptFor_40 (lv_at hl 4 rfl) ?_
        obtain ⟨r10, hf11, h⟩ := biS h
        refine ux_calli (va_runV (As := [.int v7]) (rest := []) ⟨hx, hb, hml, hown, hts⟩ (tX2_isUp l dC dI cy ad τ nb hτ σ v7 H.size r10 hf11) (cwV 1 hts gX6_isKeptFor_X2_isUp rfl rfl rfl (by decide +kernel) ⟨Nat.le_of_ble_eq_true rfl, Nat.le_of_ble_eq_true rfl⟩) (wp_V hK hN hP hD (va_recv hK hP (ci := 2) (q0 := 7) rfl (wG_of (Nat.lt_of_lt_of_le (Nat.le_of_ble_eq_true rfl : 7 < 182) (Nat.le_add_right _ _)) (cC_7 _ _ _ _ _)))) rfl rfl hl.1 rfl (lv_room (Nat.le_of_ble_eq_true rfl)) dX6_isKeptFor_42 ⟨Nat.le_of_ble_eq_true rfl, Nat.le_of_ble_eq_true rfl⟩) hD hS hA (fun H locs hP hD hS => ?_)
        refine lv_if_ne (tgt := 51) hx hb dX6_isKeptFor_45 (by decide) (fun hcd => ?_) (fun hcd => ?_)
        · have h := cdN hcd h
          refine lv_aload_n hx hb dX6_isKeptFor_51 rfl (lv_at hl 0 rfl) ?_
          refine ux_get (D := (dC, dI)) (ci := 6) (v := .ref (ad 20)) (C := RX6) (T := TX6) (M := 12) (fs := (oPC ad (σ.1 18))) hx hb hts (fun _ h9 => List.mem_cons_of_mem _ (List.mem_append_left _ (List.mem_append_left _ (List.mem_append_right _ h9)))) hown hK hP 18 (Nat.lt_of_lt_of_le (Nat.le_of_ble_eq_true rfl : 18 < 182) (Nat.le_add_right _ _)) (cC_18 _ _ _ _ _) rfl 1 (by decide) (hts (.fieldLink RX6 16 "SeatsRound$Parcels" "kept" "[[I") (List.mem_of_getElem? (i := 5) rfl)) (fun _ h9 => h9) rfl dX6_isKeptFor_52 ?_
          refine lv_iload hx hb dX6_isKeptFor_55 (lv_at hl 4 rfl) ?_
          obtain ⟨hii12, h⟩ := ckS h
          have hri12 := vp_lt hii12
          refine vz_aldg hx hb hK hP 20 6 (wG_of (Nat.lt_of_lt_of_le (Nat.le_of_ble_eq_true rfl : 20 < 182) (Nat.le_add_right _ _)) (cC_20 _ _ _ _ _)) rfl hii12 (if_pos hri12) dX6_isKeptFor_57 ?_
          refine lv_iload_n hx hb dX6_isKeptFor_58 rfl (lv_at hl 2 rfl) ?_
          refine ux_iald hx hb hK hP (96 + Int32.toNatClampNeg v7) 0 (by omega) (cC_r2 _ _ _ _ _ _ (by omega)) rfl h dX6_isKeptFor_59 (fun v13 h => ?_)
          refine lv_if_le (tgt := 79) hx hb dX6_isKeptFor_60 (by decide) (fun hcd => ?_) (fun hcd => ?_)
          · have h := cdP hcd h
            exact w79 σ x1 x2 v7 H locs ls h hP hD hS (lv_sub hl [0, 1, 2, 4] rfl)
          · have h := cdN hcd h
            refine lv_aload_n hx hb dX6_isKeptFor_63 rfl (lv_at hl 0 rfl) ?_
            refine ux_get (D := (dC, dI)) (ci := 6) (v := .ref (ad 21)) (C := RX6) (T := TX6) (M := 12) (fs := (oPC ad (σ.1 18))) hx hb hts (fun _ h9 => List.mem_cons_of_mem _ (List.mem_append_left _ (List.mem_append_left _ (List.mem_append_right _ h9)))) hown hK hP 18 (Nat.lt_of_lt_of_le (Nat.le_of_ble_eq_true rfl : 18 < 182) (Nat.le_add_right _ _)) (cC_18 _ _ _ _ _) rfl 2 (by decide) (hts (.fieldLink RX6 19 "SeatsRound$Parcels" "keptFor" "[[I") (List.mem_of_getElem? (i := 6) rfl)) (fun _ h9 => h9) rfl dX6_isKeptFor_64 ?_
            refine lv_iload hx hb dX6_isKeptFor_67 (lv_at hl 4 rfl) ?_
            obtain ⟨hii14, h⟩ := ckS h
            have hri14 := vp_lt hii14
            refine vz_aldg hx hb hK hP 21 6 (wG_of (Nat.lt_of_lt_of_le (Nat.le_of_ble_eq_true rfl : 21 < 182) (Nat.le_add_right _ _)) (cC_21 _ _ _ _ _)) rfl hii14 (if_pos hri14) dX6_isKeptFor_69 ?_
            refine lv_iload_n hx hb dX6_isKeptFor_70 rfl (lv_at hl 2 rfl) ?_
            refine ux_iald hx hb hK hP (108 + Int32.toNatClampNeg v7) 0 (by omega) (cC_r3 _ _ _ _ _ _ (by omega)) rfl h dX6_isKeptFor_71 (fun v15 h => ?_)
            refine lv_iload_n hx hb dX6_isKeptFor_72 rfl (lv_at hl 1 rfl) ?_
            refine lv_icmp_eq (tgt := 79) hx hb dX6_isKeptFor_73 (by decide) (fun hcd => ?_) (fun hcd => ?_)
            · have h := cdP hcd h
              exact w79 σ x1 x2 v7 H locs ls h hP hD hS (lv_sub hl [0, 1, 2, 4] rfl)
            · have h := cdN hcd h
              refine lv_goto (tgt := 106) hx hb dX6_isKeptFor_76 (by decide) ?_
              exact w106 _ ih σ x1 x2 x3 H locs ls h hP hD hS (lv_sub hl [0, 1, 2, 3] rfl)
        · have h := cdP hcd h
          refine lv_goto (tgt := 106) hx hb dX6_isKeptFor_48 (by decide) ?_
          exact w106 _ ih σ x1 x2 x3 H locs ls h hP hD hS (lv_sub hl [0, 1, 2, 3] rfl)
  have w0 : ∀ (σ : S2) (x1 : Int32) (x2 : Int32) (H : Heap) (locs : List Loc) (ls : Array Slot), fX6_isKeptFor_0 τ σ x1 x2 = some (r0, σ9) → va_P (dC, dI) vwCl (wG (cC cy ad τ) ad (182 + 6 * nb) σ) H → va_D A (wG (cC cy ad τ) ad (182 + 6 * nb) σ) → va_S A s.heap H locs → lv_has ls 5 [(0, .ref (ad 18)), (1, .int x1), (2, .int x2)] → W p l e (headSpec wsX6_isKeptFor ({ frames := 2, cells := 0, slots := 0, locals := 44 })).room s m (#[.ref (ad 18), .int a1, .int a2]) below meth c H locs 0 0 (MQ below (va_Qi (fun (r : Int32) (_ : Unit) => r = r0) (fun (_ : Unit) t => wAt (dC, dI) A (wG (cC cy ad τ) ad (182 + 6 * nb) σ9) t) A) (#[.ref (ad 18), .int a1, .int a2]) s 0 0 A) (F0 m 0 ls []) := by
    intro σ x1 x2 H locs ls h hP hD hS hl
    unfold fX6_isKeptFor_0 at h
    refine lv_iconst (v := 0) hx hb dX6_isKeptFor_0 (by decide) ?_
    refine lv_istore_n (lv' := [(3, .int 0), (0, .ref (ad 18)), (1, .int x1), (2, .int x2)]) hx hb dX6_isKeptFor_1 rfl hl (by decide) rfl (fun ls hl => ?_)
    have hl := lv_sub hl [1, 2, 3, 0] (l' := [(0, .ref (ad 18)), (1, .int x1), (2, .int x2), (3, .int 0)]) rfl
    exact w2 FU σ x1 x2 0 H locs ls h hP hD hS hl
  intro H locs ls h hP hD hS hl
  exact w0 σ a1 a2 H locs ls h hP hD hS (lv_sub hl [0, 1, 2] rfl)

set_option maxHeartbeats 4000000 in
set_option maxRecDepth 100000 in
theorem tX6_filled (l : Launch) (dC : Nat → ClassId) (dI : Nat → Nat → Nat) (cy : Nat → ClassId) (ad : Nat → Nat) (τ nb : Nat) (hτ : τ < nb) (c0 n0 : Nat) (hc0 : c0 < 182 + 6 * nb) (hs0 : ∀ (g : Nat → Int32) (q : Nat → Int64), cC cy ad τ c0 g q = .inl (cy 0, n0, .inl g)) (σ : S2)  (sz : Nat) (r0 : Int32) (h : fX6_filled τ c0 n0 σ = some r0) : Met l yX6_filled wsX6_filled ({ frames := 1, cells := 0, slots := 0, locals := 23 }) (va_Pc [.ref (ad c0)] (wPre (dC, dI) cy (wG (cC cy ad τ) ad (182 + 6 * nb) σ) sz)) (va_Qi (fun (r : Int32) (_ : Unit) => r = r0) (fun (_ : Unit) t => wAt (dC, dI) (va_A (wG (cC cy ad τ) ad (182 + 6 * nb) σ) sz) (wG (cC cy ad τ) ad (182 + 6 * nb) σ) t) (va_A (wG (cC cy ad τ) ad (182 + 6 * nb) σ) sz)) 0 0 (va_A (wG (cC cy ad τ) ad (182 + 6 * nb) σ) sz) := by
  refine Met.ofW (cc := cX6_filled) (maxL := 6) (ret := (some .int)) (by decide) rfl ?_
  intro p e s m args below meth c s₁ B hml hv
  obtain ⟨rfl, hsz, hP, hK, hD0, hN⟩ := hv
  have hx := B.exec
  have hb := B.bytes
  have hr := B.returns
  have hts := atoms_spec (ws := wsX6_filled) B.pre
  have hown : s.vm.findClass RX6 = some m.cls := findClass_of_methodNamed B.named
  have hlocks := B.notSynchronized
  subst hsz
  have hD := hD0.self (sz := s.heap.size)
  generalize hAe : va_A (wG (cC cy ad τ) ad (182 + 6 * nb) σ) s.heap.size = A at hD ⊢
  have hA : ∀ q : Nat, s.heap.size ≤ q → A q := fun q h => by rw [← hAe]; exact Or.inr h
  have hS : va_S A s.heap s.heap [] := va_S.rf
  have hl := lv_entry ([.ref (ad c0)]) (n := 6) (Nat.le_of_ble_eq_true rfl)
  rw [lg_entry_eq]
  generalize (lg_sl ([.ref (ad c0)]) ++ List.replicate (6 - (lg_sl ([.ref (ad c0)])).length) Slot.unset).toArray = ls at hl ⊢
  have hl : lv_has ls 6 [(0, .ref (ad c0))] := hl
  unfold fX6_filled at h
  clear hAe hD0
  suffices HH : ∀ (H : Heap) (locs : List Loc) (ls : Array Slot), fX6_filled_0 τ c0 n0 σ = some r0 → va_P (dC, dI) vwCl (wG (cC cy ad τ) ad (182 + 6 * nb) σ) H → va_D A (wG (cC cy ad τ) ad (182 + 6 * nb) σ) → va_S A s.heap H locs → lv_has ls 6 [(0, .ref (ad c0))] → W p l e (headSpec wsX6_filled ({ frames := 1, cells := 0, slots := 0, locals := 23 })).room s m (#[.ref (ad c0)]) below meth c H locs 0 0 (MQ below (va_Qi (fun (r : Int32) (_ : Unit) => r = r0) (fun (_ : Unit) t => wAt (dC, dI) A (wG (cC cy ad τ) ad (182 + 6 * nb) σ) t) A) (#[.ref (ad c0)]) s 0 0 A) (F0 m 0 ls []) from HH s.heap [] ls h hP hD hS hl
  have w30 : ∀ (k10 : S2 → Int32 → Int32 → Int32 → Option Int32) (hk10 : ∀ (σ : S2) (x1 : Int32) (x3 : Int32) (x4 : Int32) (H : Heap) (locs : List Loc) (ls : Array Slot), k10 σ x1 x3 x4 = some r0 → va_P (dC, dI) vwCl (wG (cC cy ad τ) ad (182 + 6 * nb) σ) H → va_D A (wG (cC cy ad τ) ad (182 + 6 * nb) σ) → va_S A s.heap H locs → lv_has ls 6 [(1, .int x1), (2, .ref (ad c0)), (3, .int x3), (4, .int x4)] → W p l e (headSpec wsX6_filled ({ frames := 1, cells := 0, slots := 0, locals := 23 })).room s m (#[.ref (ad c0)]) below meth c H locs 0 0 (MQ below (va_Qi (fun (r : Int32) (_ : Unit) => r = r0) (fun (_ : Unit) t => wAt (dC, dI) A (wG (cC cy ad τ) ad (182 + 6 * nb) σ) t) A) (#[.ref (ad c0)]) s 0 0 A) (F0 m 10 ls [])) , ∀ (σ : S2) (x1 : Int32) (x3 : Int32) (x4 : Int32) (H : Heap) (locs : List Loc) (ls : Array Slot), fX6_filled_30 τ c0 n0 k10 σ x1 x3 x4 = some r0 → va_P (dC, dI) vwCl (wG (cC cy ad τ) ad (182 + 6 * nb) σ) H → va_D A (wG (cC cy ad τ) ad (182 + 6 * nb) σ) → va_S A s.heap H locs → lv_has ls 6 [(1, .int x1), (2, .ref (ad c0)), (3, .int x3), (4, .int x4)] → W p l e (headSpec wsX6_filled ({ frames := 1, cells := 0, slots := 0, locals := 23 })).room s m (#[.ref (ad c0)]) below meth c H locs 0 0 (MQ below (va_Qi (fun (r : Int32) (_ : Unit) => r = r0) (fun (_ : Unit) t => wAt (dC, dI) A (wG (cC cy ad τ) ad (182 + 6 * nb) σ) t) A) (#[.ref (ad c0)]) s 0 0 A) (F0 m 30 ls []) := by
    intro k10 hk10 σ x1 x3 x4 H locs ls h hP hD hS hl
    unfold fX6_filled_30 at h
    obtain ⟨v1, ev1⟩ : ∃ y : Int32, y = x4 + 1 := ⟨_, rfl⟩
    have h := nmS h ev1
    refine lv_iinc (v := v1) (lv' := [(4, .int v1), (1, .int x1), (2, .ref (ad c0)), (3, .int x3)]) hx hb dX6_filled_30 hl (k := 3) rfl (by rw [ev1]; rfl) (by decide) rfl (fun ls hl => ?_)
    have hl := lv_sub hl [1, 2, 3, 0] (l' := [(1, .int x1), (2, .ref (ad c0)), (3, .int x3), (4, .int v1)]) rfl
    refine lv_goto (tgt := 10) hx hb dX6_filled_33 (by decide) ?_
    exact hk10 σ x1 x3 v1 H locs ls h hP hD hS hl
  have w10 : ∀ (n : Nat), ∀ (σ : S2) (x1 : Int32) (x3 : Int32) (x4 : Int32) (H : Heap) (locs : List Loc) (ls : Array Slot), fX6_filled_10 τ c0 n0 n σ x1 x3 x4 = some r0 → va_P (dC, dI) vwCl (wG (cC cy ad τ) ad (182 + 6 * nb) σ) H → va_D A (wG (cC cy ad τ) ad (182 + 6 * nb) σ) → va_S A s.heap H locs → lv_has ls 6 [(1, .int x1), (2, .ref (ad c0)), (3, .int x3), (4, .int x4)] → W p l e (headSpec wsX6_filled ({ frames := 1, cells := 0, slots := 0, locals := 23 })).room s m (#[.ref (ad c0)]) below meth c H locs 0 0 (MQ below (va_Qi (fun (r : Int32) (_ : Unit) => r = r0) (fun (_ : Unit) t => wAt (dC, dI) A (wG (cC cy ad τ) ad (182 + 6 * nb) σ) t) A) (#[.ref (ad c0)]) s 0 0 A) (F0 m 10 ls []) := by
    intro n
    induction n with
    | zero => intro σ x1 x3 x4 H locs ls h; cases h
    | succ n ih =>
    intro σ x1 x3 x4 H locs ls h hP hD hS hl
    unfold fX6_filled_10 at h
    refine lv_iload hx hb dX6_filled_10 (lv_at hl 3 rfl) ?_
    refine lv_iload_n hx hb dX6_filled_12 rfl (lv_at hl 2 rfl) ?_
    refine lv_icmp_ge (tgt := 36) hx hb dX6_filled_13 (by decide) (fun hcd => ?_) (fun hcd => ?_)
    · have h := cdP hcd h
      refine lv_iload_n hx hb dX6_filled_36 rfl (lv_at hl 0 rfl) ?_
      exact ux_iretP hx hb hr h hP hD hS hlocks dX6_filled_37
    · have h := cdN hcd h
      refine lv_aload_n hx hb dX6_filled_16 rfl (lv_at hl 1 rfl) ?_
      refine lv_iload hx hb dX6_filled_17 (lv_at hl 3 rfl) ?_
      refine ux_iald hx hb hK hP c0 0 hc0 (hs0 _ _) rfl h dX6_filled_19 (fun v2 h => ?_)
      refine lv_istore (lv' := [(5, .int v2), (1, .int x1), (2, .ref (ad c0)), (3, .int x3), (4, .int x4)]) hx hb dX6_filled_20 hl (by decide) rfl (fun ls hl => ?_)
      have hl := lv_sub hl [1, 2, 3, 4, 0] (l' := [(1, .int x1), (2, .ref (ad c0)), (3, .int x3), (4, .int x4), (5, .int v2)]) rfl
      refine lv_iload hx hb dX6_filled_22 (lv_at hl 4 rfl) ?_
      refine lv_if_le (tgt := 30) hx hb dX6_filled_24 (by decide) (fun hcd => ?_) (fun hcd => ?_)
      · have h := cdP hcd h
        exact w30 _ ih σ x1 x3 x4 H locs ls h hP hD hS (lv_sub hl [0, 1, 2, 3] rfl)
      · have h := cdN hcd h
        obtain ⟨v3, ev3⟩ : ∃ y : Int32, y = x1 + 1 := ⟨_, rfl⟩
        have h := nmS h ev3
        refine lv_iinc (v := v3) (lv' := [(1, .int v3), (2, .ref (ad c0)), (3, .int x3), (4, .int x4), (5, .int v2)]) hx hb dX6_filled_27 hl (k := 0) rfl (by rw [ev3]; rfl) (by decide) rfl (fun ls hl => ?_)
        exact w30 _ ih σ v3 x3 x4 H locs ls h hP hD hS (lv_sub hl [0, 1, 2, 3] rfl)
  have w0 : ∀ (σ : S2)  (H : Heap) (locs : List Loc) (ls : Array Slot), fX6_filled_0 τ c0 n0 σ = some r0 → va_P (dC, dI) vwCl (wG (cC cy ad τ) ad (182 + 6 * nb) σ) H → va_D A (wG (cC cy ad τ) ad (182 + 6 * nb) σ) → va_S A s.heap H locs → lv_has ls 6 [(0, .ref (ad c0))] → W p l e (headSpec wsX6_filled ({ frames := 1, cells := 0, slots := 0, locals := 23 })).room s m (#[.ref (ad c0)]) below meth c H locs 0 0 (MQ below (va_Qi (fun (r : Int32) (_ : Unit) => r = r0) (fun (_ : Unit) t => wAt (dC, dI) A (wG (cC cy ad τ) ad (182 + 6 * nb) σ) t) A) (#[.ref (ad c0)]) s 0 0 A) (F0 m 0 ls []) := by
    intro σ H locs ls h hP hD hS hl
    unfold fX6_filled_0 at h
    refine lv_iconst (v := 0) hx hb dX6_filled_0 (by decide) ?_
    refine lv_istore_n (lv' := [(1, .int 0), (0, .ref (ad c0))]) hx hb dX6_filled_1 rfl hl (by decide) rfl (fun ls hl => ?_)
    have hl := lv_sub hl [1, 0] (l' := [(0, .ref (ad c0)), (1, .int 0)]) rfl
    refine lv_aload_n hx hb dX6_filled_2 rfl (lv_at hl 0 rfl) ?_
    refine lv_astore_n (lv' := [(2, .ref (ad c0)), (0, .ref (ad c0)), (1, .int 0)]) hx hb dX6_filled_3 rfl hl (by decide) rfl (fun ls hl => ?_)
    have hl := lv_sub hl [1, 2, 0] (l' := [(0, .ref (ad c0)), (1, .int 0), (2, .ref (ad c0))]) rfl
    refine lv_aload_n hx hb dX6_filled_4 rfl (lv_at hl 2 rfl) ?_
    refine ux_alen (v := Int32.ofNat n0) hx hb hK hP c0 0 hc0 (hs0 _ _) rfl rfl dX6_filled_5 ?_
    refine lv_topi (fun v4 ev4 => ?_)
    have h := nmS h ev4
    refine lv_istore_n (lv' := [(3, .int v4), (0, .ref (ad c0)), (1, .int 0), (2, .ref (ad c0))]) hx hb dX6_filled_6 rfl hl (by decide) rfl (fun ls hl => ?_)
    have hl := lv_sub hl [1, 2, 3, 0] (l' := [(0, .ref (ad c0)), (1, .int 0), (2, .ref (ad c0)), (3, .int v4)]) rfl
    refine lv_iconst (v := 0) hx hb dX6_filled_7 (by decide) ?_
    refine lv_istore (lv' := [(4, .int 0), (0, .ref (ad c0)), (1, .int 0), (2, .ref (ad c0)), (3, .int v4)]) hx hb dX6_filled_8 hl (by decide) rfl (fun ls hl => ?_)
    have hl := lv_sub hl [1, 2, 3, 4, 0] (l' := [(0, .ref (ad c0)), (1, .int 0), (2, .ref (ad c0)), (3, .int v4), (4, .int 0)]) rfl
    exact w10 FU σ 0 v4 0 H locs ls h hP hD hS (lv_sub hl [1, 2, 3, 4] rfl)
  intro H locs ls h hP hD hS hl
  exact w0 σ H locs ls h hP hD hS (lv_sub hl [0] rfl)

set_option maxHeartbeats 4000000 in
set_option maxRecDepth 100000 in
theorem tX6_copiesOn (l : Launch) (dC : Nat → ClassId) (dI : Nat → Nat → Nat) (cy : Nat → ClassId) (ad : Nat → Nat) (τ nb : Nat) (hτ : τ < nb) (σ : S2) (a1 : Int32) (sz : Nat) (r0 : Int32) (h : fX6_copiesOn τ σ a1 = some r0) : Met l yX6_copiesOn wsX6_copiesOn ({ frames := 2, cells := 0, slots := 0, locals := 48 }) (va_Pc [.ref (ad 18), .int a1] (wPre (dC, dI) cy (wG (cC cy ad τ) ad (182 + 6 * nb) σ) sz)) (va_Qi (fun (r : Int32) (_ : Unit) => r = r0) (fun (_ : Unit) t => wAt (dC, dI) (va_A (wG (cC cy ad τ) ad (182 + 6 * nb) σ) sz) (wG (cC cy ad τ) ad (182 + 6 * nb) σ) t) (va_A (wG (cC cy ad τ) ad (182 + 6 * nb) σ) sz)) 0 0 (va_A (wG (cC cy ad τ) ad (182 + 6 * nb) σ) sz) := by
  refine Met.ofW (cc := cX6_copiesOn) (maxL := 2) (ret := (some .int)) (by decide) rfl ?_
  intro p e s m args below meth c s₁ B hml hv
  obtain ⟨rfl, hsz, hP, hK, hD0, hN⟩ := hv
  have hx := B.exec
  have hb := B.bytes
  have hr := B.returns
  have hts := atoms_spec (ws := wsX6_copiesOn) B.pre
  have hown : s.vm.findClass RX6 = some m.cls := findClass_of_methodNamed B.named
  have hlocks := B.notSynchronized
  subst hsz
  have hD := hD0.self (sz := s.heap.size)
  generalize hAe : va_A (wG (cC cy ad τ) ad (182 + 6 * nb) σ) s.heap.size = A at hD ⊢
  have hA : ∀ q : Nat, s.heap.size ≤ q → A q := fun q h => by rw [← hAe]; exact Or.inr h
  have hS : va_S A s.heap s.heap [] := va_S.rf
  have hl := lv_entry ([.ref (ad 18), .int a1]) (n := 2) (Nat.le_of_ble_eq_true rfl)
  rw [lg_entry_eq]
  generalize (lg_sl ([.ref (ad 18), .int a1]) ++ List.replicate (2 - (lg_sl ([.ref (ad 18), .int a1])).length) Slot.unset).toArray = ls at hl ⊢
  have hl : lv_has ls 2 [(0, .ref (ad 18)), (1, .int a1)] := hl
  unfold fX6_copiesOn at h
  clear hAe hD0
  suffices HH : ∀ (H : Heap) (locs : List Loc) (ls : Array Slot), fX6_copiesOn_0 τ σ a1 = some r0 → va_P (dC, dI) vwCl (wG (cC cy ad τ) ad (182 + 6 * nb) σ) H → va_D A (wG (cC cy ad τ) ad (182 + 6 * nb) σ) → va_S A s.heap H locs → lv_has ls 2 [(0, .ref (ad 18)), (1, .int a1)] → W p l e (headSpec wsX6_copiesOn ({ frames := 2, cells := 0, slots := 0, locals := 48 })).room s m (#[.ref (ad 18), .int a1]) below meth c H locs 0 0 (MQ below (va_Qi (fun (r : Int32) (_ : Unit) => r = r0) (fun (_ : Unit) t => wAt (dC, dI) A (wG (cC cy ad τ) ad (182 + 6 * nb) σ) t) A) (#[.ref (ad 18), .int a1]) s 0 0 A) (F0 m 0 ls []) from HH s.heap [] ls h hP hD hS hl
  have w0 : ∀ (σ : S2) (x1 : Int32) (H : Heap) (locs : List Loc) (ls : Array Slot), fX6_copiesOn_0 τ σ x1 = some r0 → va_P (dC, dI) vwCl (wG (cC cy ad τ) ad (182 + 6 * nb) σ) H → va_D A (wG (cC cy ad τ) ad (182 + 6 * nb) σ) → va_S A s.heap H locs → lv_has ls 2 [(0, .ref (ad 18)), (1, .int x1)] → W p l e (headSpec wsX6_copiesOn ({ frames := 2, cells := 0, slots := 0, locals := 48 })).room s m (#[.ref (ad 18), .int a1]) below meth c H locs 0 0 (MQ below (va_Qi (fun (r : Int32) (_ : Unit) => r = r0) (fun (_ : Unit) t => wAt (dC, dI) A (wG (cC cy ad τ) ad (182 + 6 * nb) σ) t) A) (#[.ref (ad 18), .int a1]) s 0 0 A) (F0 m 0 ls []) := by
    intro σ x1 H locs ls h hP hD hS hl
    unfold fX6_copiesOn_0 at h
    refine lv_aload_n hx hb dX6_copiesOn_0 rfl (lv_at hl 0 rfl) ?_
    refine ux_get (D := (dC, dI)) (ci := 6) (v := .ref (ad 19)) (C := RX6) (T := TX6) (M := 12) (fs := (oPC ad (σ.1 18))) hx hb hts (fun _ h9 => List.mem_cons_of_mem _ (List.mem_append_right _ h9)) hown hK hP 18 (Nat.lt_of_lt_of_le (Nat.le_of_ble_eq_true rfl : 18 < 182) (Nat.le_add_right _ _)) (cC_18 _ _ _ _ _) rfl 0 (by decide) (hts (.fieldLink RX6 11 "SeatsRound$Parcels" "version" "[[I") (List.mem_of_getElem? (i := 1) rfl)) (fun _ h9 => h9) rfl dX6_copiesOn_1 ?_
    refine lv_iload_n hx hb dX6_copiesOn_4 rfl (lv_at hl 1 rfl) ?_
    obtain ⟨hii1, h⟩ := ckS h
    have hri1 := vp_lt hii1
    refine vz_aldg hx hb hK hP 19 6 (wG_of (Nat.lt_of_lt_of_le (Nat.le_of_ble_eq_true rfl : 19 < 182) (Nat.le_add_right _ _)) (cC_19 _ _ _ _ _)) rfl hii1 (if_pos hri1) dX6_copiesOn_5 ?_
    obtain ⟨r2, hf3, h⟩ := biS h
    refine ux_calli (va_runS (As := [.ref (ad (84 + Int32.toNatClampNeg x1))]) (rest := []) ⟨hx, hb, hml, hown, hts⟩ (tX6_filled l dC dI cy ad τ nb hτ (84 + Int32.toNatClampNeg x1) 40 (by omega) (fun _ _ => (cC_r1 _ _ _ _ _ _ (by omega))) σ H.size r2 hf3) (va_cwS 1 hts gX6_copiesOn_X6_filled rfl rfl rfl (by decide +kernel) ⟨Nat.le_of_ble_eq_true rfl, Nat.le_of_ble_eq_true rfl⟩) (wp_S hK hN hP hD) rfl rfl hl.1 rfl (lv_room (Nat.le_of_ble_eq_true rfl)) dX6_copiesOn_6 ⟨Nat.le_of_ble_eq_true rfl, Nat.le_of_ble_eq_true rfl⟩) hD hS hA (fun H locs hP hD hS => ?_)
    exact ux_iretP hx hb hr h hP hD hS hlocks dX6_copiesOn_9
  intro H locs ls h hP hD hS hl
  exact w0 σ a1 H locs ls h hP hD hS (lv_sub hl [0, 1] rfl)

set_option maxHeartbeats 4000000 in
set_option maxRecDepth 100000 in
theorem tX6_hasRoom (l : Launch) (dC : Nat → ClassId) (dI : Nat → Nat → Nat) (cy : Nat → ClassId) (ad : Nat → Nat) (τ nb : Nat) (hτ : τ < nb) (σ : S2) (a1 : Int32) (a2 : Int32) (sz : Nat) (r0 : Int32) (h : fX6_hasRoom τ σ a1 a2 = some r0) : Met l yX6_hasRoom wsX6_hasRoom ({ frames := 3, cells := 0, slots := 0, locals := 69 }) (va_Pc [.ref (ad 18), .int a1, .int a2] (wPre (dC, dI) cy (wG (cC cy ad τ) ad (182 + 6 * nb) σ) sz)) (va_Qi (fun (r : Int32) (_ : Unit) => r = r0) (fun (_ : Unit) t => wAt (dC, dI) (va_A (wG (cC cy ad τ) ad (182 + 6 * nb) σ) sz) (wG (cC cy ad τ) ad (182 + 6 * nb) σ) t) (va_A (wG (cC cy ad τ) ad (182 + 6 * nb) σ) sz)) 0 0 (va_A (wG (cC cy ad τ) ad (182 + 6 * nb) σ) sz) := by
  refine Met.ofW (cc := cX6_hasRoom) (maxL := 3) (ret := (some .boolean)) (by decide) rfl ?_
  intro p e s m args below meth c s₁ B hml hv
  obtain ⟨rfl, hsz, hP, hK, hD0, hN⟩ := hv
  have hx := B.exec
  have hb := B.bytes
  have hr := B.returns
  have hts := atoms_spec (ws := wsX6_hasRoom) B.pre
  have hown : s.vm.findClass RX6 = some m.cls := findClass_of_methodNamed B.named
  have hlocks := B.notSynchronized
  subst hsz
  have hD := hD0.self (sz := s.heap.size)
  generalize hAe : va_A (wG (cC cy ad τ) ad (182 + 6 * nb) σ) s.heap.size = A at hD ⊢
  have hA : ∀ q : Nat, s.heap.size ≤ q → A q := fun q h => by rw [← hAe]; exact Or.inr h
  have hS : va_S A s.heap s.heap [] := va_S.rf
  have hl := lv_entry ([.ref (ad 18), .int a1, .int a2]) (n := 3) (Nat.le_of_ble_eq_true rfl)
  rw [lg_entry_eq]
  generalize (lg_sl ([.ref (ad 18), .int a1, .int a2]) ++ List.replicate (3 - (lg_sl ([.ref (ad 18), .int a1, .int a2])).length) Slot.unset).toArray = ls at hl ⊢
  have hl : lv_has ls 3 [(0, .ref (ad 18)), (1, .int a1), (2, .int a2)] := hl
  unfold fX6_hasRoom at h
  clear hAe hD0
  suffices HH : ∀ (H : Heap) (locs : List Loc) (ls : Array Slot), fX6_hasRoom_0 τ σ a1 a2 = some r0 → va_P (dC, dI) vwCl (wG (cC cy ad τ) ad (182 + 6 * nb) σ) H → va_D A (wG (cC cy ad τ) ad (182 + 6 * nb) σ) → va_S A s.heap H locs → lv_has ls 3 [(0, .ref (ad 18)), (1, .int a1), (2, .int a2)] → W p l e (headSpec wsX6_hasRoom ({ frames := 3, cells := 0, slots := 0, locals := 69 })).room s m (#[.ref (ad 18), .int a1, .int a2]) below meth c H locs 0 0 (MQ below (va_Qi (fun (r : Int32) (_ : Unit) => r = r0) (fun (_ : Unit) t => wAt (dC, dI) A (wG (cC cy ad τ) ad (182 + 6 * nb) σ) t) A) (#[.ref (ad 18), .int a1, .int a2]) s 0 0 A) (F0 m 0 ls []) from HH s.heap [] ls h hP hD hS hl
  have w0 : ∀ (σ : S2) (x1 : Int32) (x2 : Int32) (H : Heap) (locs : List Loc) (ls : Array Slot), fX6_hasRoom_0 τ σ x1 x2 = some r0 → va_P (dC, dI) vwCl (wG (cC cy ad τ) ad (182 + 6 * nb) σ) H → va_D A (wG (cC cy ad τ) ad (182 + 6 * nb) σ) → va_S A s.heap H locs → lv_has ls 3 [(0, .ref (ad 18)), (1, .int x1), (2, .int x2)] → W p l e (headSpec wsX6_hasRoom ({ frames := 3, cells := 0, slots := 0, locals := 69 })).room s m (#[.ref (ad 18), .int a1, .int a2]) below meth c H locs 0 0 (MQ below (va_Qi (fun (r : Int32) (_ : Unit) => r = r0) (fun (_ : Unit) t => wAt (dC, dI) A (wG (cC cy ad τ) ad (182 + 6 * nb) σ) t) A) (#[.ref (ad 18), .int a1, .int a2]) s 0 0 A) (F0 m 0 ls []) := by
    intro σ x1 x2 H locs ls h hP hD hS hl
    unfold fX6_hasRoom_0 at h
    refine lv_aload_n hx hb dX6_hasRoom_0 rfl (lv_at hl 0 rfl) ?_
    refine ux_get (D := (dC, dI)) (ci := 6) (v := .ref (ad 7)) (C := RX6) (T := TX6) (M := 12) (fs := (oPC ad (σ.1 18))) hx hb hts (fun _ h9 => List.mem_cons_of_mem _ (List.mem_append_left _ (List.mem_append_right _ h9))) hown hK hP 18 (Nat.lt_of_lt_of_le (Nat.le_of_ble_eq_true rfl : 18 < 182) (Nat.le_add_right _ _)) (cC_18 _ _ _ _ _) rfl 9 (by decide) (hts (.fieldLink RX6 42 "SeatsRound$Parcels" "keepers" "LSeatsRound$Keepers;") (List.mem_of_getElem? (i := 1) rfl)) (fun _ h9 => h9) rfl dX6_hasRoom_1 ?_
    refine ux_get (D := (dC, dI)) (ci := 2) (v := .ref (ad 8)) (C := RX2) (T := TX2) (M := 6) (fs := (oKP ad (σ.1 7))) hx hb hts (fun _ h9 => List.mem_cons_of_mem _ (List.mem_append_right _ h9)) hown hK hP 7 (Nat.lt_of_lt_of_le (Nat.le_of_ble_eq_true rfl : 7 < 182) (Nat.le_add_right _ _)) (cC_7 _ _ _ _ _) rfl 0 (by decide) (hts (.fieldLink RX6 87 "SeatsRound$Keepers" "kind" "[I") (List.mem_of_getElem? (i := 2) rfl)) (fun _ h9 => h9) rfl dX6_hasRoom_4 ?_
    refine lv_iload_n hx hb dX6_hasRoom_7 rfl (lv_at hl 1 rfl) ?_
    refine ux_iald hx hb hK hP 8 0 (Nat.lt_of_lt_of_le (Nat.le_of_ble_eq_true rfl : 8 < 182) (Nat.le_add_right _ _)) (cC_8 _ _ _ _ _) rfl h dX6_hasRoom_8 (fun v1 h => ?_)
    refine lv_bipush (v := 6) hx hb dX6_hasRoom_9 (by decide) ?_
    refine lv_icmp_ne (tgt := 25) hx hb dX6_hasRoom_11 (by decide) (fun hcd => ?_) (fun hcd => ?_)
    · have h := cdN hcd h
      refine lv_iconst (v := 1) hx hb dX6_hasRoom_25 (by decide) ?_
      exact ux_zretP hx hb hr rfl h hP hD hS hlocks dX6_hasRoom_26
    · have h := cdP hcd h
      refine lv_aload_n hx hb dX6_hasRoom_14 rfl (lv_at hl 0 rfl) ?_
      refine ux_get (D := (dC, dI)) (ci := 6) (v := .ref (ad 19)) (C := RX6) (T := TX6) (M := 12) (fs := (oPC ad (σ.1 18))) hx hb hts (fun _ h9 => List.mem_cons_of_mem _ (List.mem_append_left _ (List.mem_append_right _ h9))) hown hK hP 18 (Nat.lt_of_lt_of_le (Nat.le_of_ble_eq_true rfl : 18 < 182) (Nat.le_add_right _ _)) (cC_18 _ _ _ _ _) rfl 0 (by decide) (hts (.fieldLink RX6 11 "SeatsRound$Parcels" "version" "[[I") (List.mem_of_getElem? (i := 3) rfl)) (fun _ h9 => h9) rfl dX6_hasRoom_15 ?_
      refine lv_iload_n hx hb dX6_hasRoom_18 rfl (lv_at hl 1 rfl) ?_
      obtain ⟨hii2, h⟩ := ckS h
      have hri2 := vp_lt hii2
      refine vz_aldg hx hb hK hP 19 6 (wG_of (Nat.lt_of_lt_of_le (Nat.le_of_ble_eq_true rfl : 19 < 182) (Nat.le_add_right _ _)) (cC_19 _ _ _ _ _)) rfl hii2 (if_pos hri2) dX6_hasRoom_19 ?_
      refine lv_iload_n hx hb dX6_hasRoom_20 rfl (lv_at hl 2 rfl) ?_
      refine ux_iald hx hb hK hP (84 + Int32.toNatClampNeg x1) 0 (by omega) (cC_r1 _ _ _ _ _ _ (by omega)) rfl h dX6_hasRoom_21 (fun v3 h => ?_)
      refine lv_if_le (tgt := 27) hx hb dX6_hasRoom_22 (by decide) (fun hcd => ?_) (fun hcd => ?_)
      · have h := cdP hcd h
        refine lv_aload_n hx hb dX6_hasRoom_27 rfl (lv_at hl 0 rfl) ?_
        refine lv_iload_n hx hb dX6_hasRoom_28 rfl (lv_at hl 1 rfl) ?_
        obtain ⟨r4, hf5, h⟩ := biS h
        refine ux_calli (va_runV (As := [.int x1]) (rest := []) ⟨hx, hb, hml, hown, hts⟩ (tX6_copiesOn l dC dI cy ad τ nb hτ σ x1 H.size r4 hf5) (cwV 1 hts gX6_hasRoom_X6_copiesOn rfl rfl rfl (by decide +kernel) ⟨Nat.le_of_ble_eq_true rfl, Nat.le_of_ble_eq_true rfl⟩) (wp_V hK hN hP hD (va_recv hK hP (ci := 6) (q0 := 18) rfl (wG_of (Nat.lt_of_lt_of_le (Nat.le_of_ble_eq_true rfl : 18 < 182) (Nat.le_add_right _ _)) (cC_18 _ _ _ _ _)))) rfl rfl hl.1 rfl (lv_room (Nat.le_of_ble_eq_true rfl)) dX6_hasRoom_29 ⟨Nat.le_of_ble_eq_true rfl, Nat.le_of_ble_eq_true rfl⟩) hD hS hA (fun H locs hP hD hS => ?_)
        refine lv_bipush (v := 8) hx hb dX6_hasRoom_32 (by decide) ?_
        refine lv_icmp_ge (tgt := 41) hx hb dX6_hasRoom_34 (by decide) (fun hcd => ?_) (fun hcd => ?_)
        · have h := cdP hcd h
          refine lv_iconst (v := 0) hx hb dX6_hasRoom_41 (by decide) ?_
          exact ux_zretP hx hb hr rfl h hP hD hS hlocks dX6_hasRoom_42
        · have h := cdN hcd h
          refine lv_iconst (v := 1) hx hb dX6_hasRoom_37 (by decide) ?_
          refine lv_goto (tgt := 42) hx hb dX6_hasRoom_38 (by decide) ?_
          exact ux_zretP hx hb hr rfl h hP hD hS hlocks dX6_hasRoom_42
      · have h := cdN hcd h
        refine lv_iconst (v := 1) hx hb dX6_hasRoom_25 (by decide) ?_
        exact ux_zretP hx hb hr rfl h hP hD hS hlocks dX6_hasRoom_26
  intro H locs ls h hP hD hS hl
  exact w0 σ a1 a2 H locs ls h hP hD hS (lv_sub hl [0, 1, 2] rfl)

set_option maxHeartbeats 4000000 in
set_option maxRecDepth 100000 in
theorem tX6_takesGreater (l : Launch) (dC : Nat → ClassId) (dI : Nat → Nat → Nat) (cy : Nat → ClassId) (ad : Nat → Nat) (τ nb : Nat) (hτ : τ < nb) (σ : S2) (a1 : Int32) (a2 : Int32) (a3 : Int32) (sz : Nat) (r0 : Int32) (σ9 : S2) (h : fX6_takesGreater τ σ a1 a2 a3 = some (r0, σ9)) : Met l yX6_takesGreater wsX6_takesGreater ({ frames := 1, cells := 0, slots := 0, locals := 23 }) (va_Pc [.ref (ad 18), .int a1, .int a2, .int a3] (wPre (dC, dI) cy (wG (cC cy ad τ) ad (182 + 6 * nb) σ) sz)) (va_Qi (fun (r : Int32) (_ : Unit) => r = r0) (fun (_ : Unit) t => wAt (dC, dI) (va_A (wG (cC cy ad τ) ad (182 + 6 * nb) σ) sz) (wG (cC cy ad τ) ad (182 + 6 * nb) σ9) t) (va_A (wG (cC cy ad τ) ad (182 + 6 * nb) σ) sz)) 0 0 (va_A (wG (cC cy ad τ) ad (182 + 6 * nb) σ) sz) := by
  refine Met.ofW (cc := cX6_takesGreater) (maxL := 4) (ret := (some .boolean)) (by decide) rfl ?_
  intro p e s m args below meth c s₁ B hml hv
  obtain ⟨rfl, hsz, hP, hK, hD0, hN⟩ := hv
  have hx := B.exec
  have hb := B.bytes
  have hr := B.returns
  have hts := atoms_spec (ws := wsX6_takesGreater) B.pre
  have hown : s.vm.findClass RX6 = some m.cls := findClass_of_methodNamed B.named
  have hlocks := B.notSynchronized
  subst hsz
  have hD := hD0.self (sz := s.heap.size)
  generalize hAe : va_A (wG (cC cy ad τ) ad (182 + 6 * nb) σ) s.heap.size = A at hD ⊢
  have hA : ∀ q : Nat, s.heap.size ≤ q → A q := fun q h => by rw [← hAe]; exact Or.inr h
  have hS : va_S A s.heap s.heap [] := va_S.rf
  have hl := lv_entry ([.ref (ad 18), .int a1, .int a2, .int a3]) (n := 4) (Nat.le_of_ble_eq_true rfl)
  rw [lg_entry_eq]
  generalize (lg_sl ([.ref (ad 18), .int a1, .int a2, .int a3]) ++ List.replicate (4 - (lg_sl ([.ref (ad 18), .int a1, .int a2, .int a3])).length) Slot.unset).toArray = ls at hl ⊢
  have hl : lv_has ls 4 [(0, .ref (ad 18)), (1, .int a1), (2, .int a2), (3, .int a3)] := hl
  unfold fX6_takesGreater at h
  clear hAe hD0
  suffices HH : ∀ (H : Heap) (locs : List Loc) (ls : Array Slot), fX6_takesGreater_0 τ σ a1 a2 a3 = some (r0, σ9) → va_P (dC, dI) vwCl (wG (cC cy ad τ) ad (182 + 6 * nb) σ) H → va_D A (wG (cC cy ad τ) ad (182 + 6 * nb) σ) → va_S A s.heap H locs → lv_has ls 4 [(0, .ref (ad 18)), (1, .int a1), (2, .int a2), (3, .int a3)] → W p l e (headSpec wsX6_takesGreater ({ frames := 1, cells := 0, slots := 0, locals := 23 })).room s m (#[.ref (ad 18), .int a1, .int a2, .int a3]) below meth c H locs 0 0 (MQ below (va_Qi (fun (r : Int32) (_ : Unit) => r = r0) (fun (_ : Unit) t => wAt (dC, dI) A (wG (cC cy ad τ) ad (182 + 6 * nb) σ9) t) A) (#[.ref (ad 18), .int a1, .int a2, .int a3]) s 0 0 A) (F0 m 0 ls []) from HH s.heap [] ls h hP hD hS hl
  have w0 : ∀ (σ : S2) (x1 : Int32) (x2 : Int32) (x3 : Int32) (H : Heap) (locs : List Loc) (ls : Array Slot), fX6_takesGreater_0 τ σ x1 x2 x3 = some (r0, σ9) → va_P (dC, dI) vwCl (wG (cC cy ad τ) ad (182 + 6 * nb) σ) H → va_D A (wG (cC cy ad τ) ad (182 + 6 * nb) σ) → va_S A s.heap H locs → lv_has ls 4 [(0, .ref (ad 18)), (1, .int x1), (2, .int x2), (3, .int x3)] → W p l e (headSpec wsX6_takesGreater ({ frames := 1, cells := 0, slots := 0, locals := 23 })).room s m (#[.ref (ad 18), .int a1, .int a2, .int a3]) below meth c H locs 0 0 (MQ below (va_Qi (fun (r : Int32) (_ : Unit) => r = r0) (fun (_ : Unit) t => wAt (dC, dI) A (wG (cC cy ad τ) ad (182 + 6 * nb) σ9) t) A) (#[.ref (ad 18), .int a1, .int a2, .int a3]) s 0 0 A) (F0 m 0 ls []) := by
    intro σ x1 x2 x3 H locs ls h hP hD hS hl
    unfold fX6_takesGreater_0 at h
    refine lv_iload_n hx hb dX6_takesGreater_0 rfl (lv_at hl 3 rfl) ?_
    refine lv_aload_n hx hb dX6_takesGreater_1 rfl (lv_at hl 0 rfl) ?_
    refine ux_get (D := (dC, dI)) (ci := 6) (v := .ref (ad 19)) (C := RX6) (T := TX6) (M := 12) (fs := (oPC ad (σ.1 18))) hx hb hts (fun _ h9 => List.mem_cons_of_mem _ (List.mem_append_right _ h9)) hown hK hP 18 (Nat.lt_of_lt_of_le (Nat.le_of_ble_eq_true rfl : 18 < 182) (Nat.le_add_right _ _)) (cC_18 _ _ _ _ _) rfl 0 (by decide) (hts (.fieldLink RX6 11 "SeatsRound$Parcels" "version" "[[I") (List.mem_of_getElem? (i := 1) rfl)) (fun _ h9 => h9) rfl dX6_takesGreater_2 ?_
    refine lv_iload_n hx hb dX6_takesGreater_5 rfl (lv_at hl 1 rfl) ?_
    obtain ⟨hii1, h⟩ := ckS h
    have hri1 := vp_lt hii1
    refine vz_aldg hx hb hK hP 19 6 (wG_of (Nat.lt_of_lt_of_le (Nat.le_of_ble_eq_true rfl : 19 < 182) (Nat.le_add_right _ _)) (cC_19 _ _ _ _ _)) rfl hii1 (if_pos hri1) dX6_takesGreater_6 ?_
    refine lv_iload_n hx hb dX6_takesGreater_7 rfl (lv_at hl 2 rfl) ?_
    refine ux_iald hx hb hK hP (84 + Int32.toNatClampNeg x1) 0 (by omega) (cC_r1 _ _ _ _ _ _ (by omega)) rfl h dX6_takesGreater_8 (fun v2 h => ?_)
    refine lv_icmp_gt (tgt := 14) hx hb dX6_takesGreater_9 (by decide) (fun hcd => ?_) (fun hcd => ?_)
    · have h := cdP hcd h
      refine lv_aload_n hx hb dX6_takesGreater_14 rfl (lv_at hl 0 rfl) ?_
      refine ux_get (D := (dC, dI)) (ci := 6) (v := .ref (ad 19)) (C := RX6) (T := TX6) (M := 12) (fs := (oPC ad (σ.1 18))) hx hb hts (fun _ h9 => List.mem_cons_of_mem _ (List.mem_append_right _ h9)) hown hK hP 18 (Nat.lt_of_lt_of_le (Nat.le_of_ble_eq_true rfl : 18 < 182) (Nat.le_add_right _ _)) (cC_18 _ _ _ _ _) rfl 0 (by decide) (hts (.fieldLink RX6 11 "SeatsRound$Parcels" "version" "[[I") (List.mem_of_getElem? (i := 1) rfl)) (fun _ h9 => h9) rfl dX6_takesGreater_15 ?_
      refine lv_iload_n hx hb dX6_takesGreater_18 rfl (lv_at hl 1 rfl) ?_
      obtain ⟨hii3, h⟩ := ckS h
      have hri3 := vp_lt hii3
      refine vz_aldg hx hb hK hP 19 6 (wG_of (Nat.lt_of_lt_of_le (Nat.le_of_ble_eq_true rfl : 19 < 182) (Nat.le_add_right _ _)) (cC_19 _ _ _ _ _)) rfl hii3 (if_pos hri3) dX6_takesGreater_19 ?_
      refine lv_iload_n hx hb dX6_takesGreater_20 rfl (lv_at hl 2 rfl) ?_
      refine lv_iload_n hx hb dX6_takesGreater_21 rfl (lv_at hl 3 rfl) ?_
      refine ux_iast hx hb hK hP hD hS (84 + Int32.toNatClampNeg x1) 0 (by omega) (fun _ => (cC_r1 _ _ _ _ _ _ (by omega))) rfl h dX6_takesGreater_22 (fun σ4 H locs h hP hD hS => ?_)
      refine lv_iconst (v := 1) hx hb dX6_takesGreater_23 (by decide) ?_
      exact ux_zret hx hb hr rfl h hP hD hS hlocks dX6_takesGreater_24
    · have h := cdN hcd h
      refine lv_iconst (v := 0) hx hb dX6_takesGreater_12 (by decide) ?_
      exact ux_zret hx hb hr rfl h hP hD hS hlocks dX6_takesGreater_13
  intro H locs ls h hP hD hS hl
  exact w0 σ a1 a2 a3 H locs ls h hP hD hS (lv_sub hl [0, 1, 2, 3] rfl)

set_option maxHeartbeats 4000000 in
set_option maxRecDepth 100000 in
theorem tX6_receives (l : Launch) (dC : Nat → ClassId) (dI : Nat → Nat → Nat) (cy : Nat → ClassId) (ad : Nat → Nat) (τ nb : Nat) (hτ : τ < nb) (σ : S2) (a1 : Int32) (a2 : Int32) (a3 : Int32) (sz : Nat) (r0 : Int32) (σ9 : S2) (h : fX6_receives τ σ a1 a2 a3 = some (r0, σ9)) : Met l yX6_receives wsX6_receives ({ frames := 4, cells := 0, slots := 0, locals := 91 }) (va_Pc [.ref (ad 18), .int a1, .int a2, .int a3] (wPre (dC, dI) cy (wG (cC cy ad τ) ad (182 + 6 * nb) σ) sz)) (va_Qi (fun (r : Int32) (_ : Unit) => r = r0) (fun (_ : Unit) t => wAt (dC, dI) (va_A (wG (cC cy ad τ) ad (182 + 6 * nb) σ) sz) (wG (cC cy ad τ) ad (182 + 6 * nb) σ9) t) (va_A (wG (cC cy ad τ) ad (182 + 6 * nb) σ) sz)) 0 0 (va_A (wG (cC cy ad τ) ad (182 + 6 * nb) σ) sz) := by
  refine Met.ofW (cc := cX6_receives) (maxL := 4) (ret := (some .boolean)) (by decide) rfl ?_
  intro p e s m args below meth c s₁ B hml hv
  obtain ⟨rfl, hsz, hP, hK, hD0, hN⟩ := hv
  have hx := B.exec
  have hb := B.bytes
  have hr := B.returns
  have hts := atoms_spec (ws := wsX6_receives) B.pre
  have hown : s.vm.findClass RX6 = some m.cls := findClass_of_methodNamed B.named
  have hlocks := B.notSynchronized
  subst hsz
  have hD := hD0.self (sz := s.heap.size)
  generalize hAe : va_A (wG (cC cy ad τ) ad (182 + 6 * nb) σ) s.heap.size = A at hD ⊢
  have hA : ∀ q : Nat, s.heap.size ≤ q → A q := fun q h => by rw [← hAe]; exact Or.inr h
  have hS : va_S A s.heap s.heap [] := va_S.rf
  have hl := lv_entry ([.ref (ad 18), .int a1, .int a2, .int a3]) (n := 4) (Nat.le_of_ble_eq_true rfl)
  rw [lg_entry_eq]
  generalize (lg_sl ([.ref (ad 18), .int a1, .int a2, .int a3]) ++ List.replicate (4 - (lg_sl ([.ref (ad 18), .int a1, .int a2, .int a3])).length) Slot.unset).toArray = ls at hl ⊢
  have hl : lv_has ls 4 [(0, .ref (ad 18)), (1, .int a1), (2, .int a2), (3, .int a3)] := hl
  unfold fX6_receives at h
  clear hAe hD0
  suffices HH : ∀ (H : Heap) (locs : List Loc) (ls : Array Slot), fX6_receives_0 τ σ a1 a2 a3 = some (r0, σ9) → va_P (dC, dI) vwCl (wG (cC cy ad τ) ad (182 + 6 * nb) σ) H → va_D A (wG (cC cy ad τ) ad (182 + 6 * nb) σ) → va_S A s.heap H locs → lv_has ls 4 [(0, .ref (ad 18)), (1, .int a1), (2, .int a2), (3, .int a3)] → W p l e (headSpec wsX6_receives ({ frames := 4, cells := 0, slots := 0, locals := 91 })).room s m (#[.ref (ad 18), .int a1, .int a2, .int a3]) below meth c H locs 0 0 (MQ below (va_Qi (fun (r : Int32) (_ : Unit) => r = r0) (fun (_ : Unit) t => wAt (dC, dI) A (wG (cC cy ad τ) ad (182 + 6 * nb) σ9) t) A) (#[.ref (ad 18), .int a1, .int a2, .int a3]) s 0 0 A) (F0 m 0 ls []) from HH s.heap [] ls h hP hD hS hl
  have w0 : ∀ (σ : S2) (x1 : Int32) (x2 : Int32) (x3 : Int32) (H : Heap) (locs : List Loc) (ls : Array Slot), fX6_receives_0 τ σ x1 x2 x3 = some (r0, σ9) → va_P (dC, dI) vwCl (wG (cC cy ad τ) ad (182 + 6 * nb) σ) H → va_D A (wG (cC cy ad τ) ad (182 + 6 * nb) σ) → va_S A s.heap H locs → lv_has ls 4 [(0, .ref (ad 18)), (1, .int x1), (2, .int x2), (3, .int x3)] → W p l e (headSpec wsX6_receives ({ frames := 4, cells := 0, slots := 0, locals := 91 })).room s m (#[.ref (ad 18), .int a1, .int a2, .int a3]) below meth c H locs 0 0 (MQ below (va_Qi (fun (r : Int32) (_ : Unit) => r = r0) (fun (_ : Unit) t => wAt (dC, dI) A (wG (cC cy ad τ) ad (182 + 6 * nb) σ9) t) A) (#[.ref (ad 18), .int a1, .int a2, .int a3]) s 0 0 A) (F0 m 0 ls []) := by
    intro σ x1 x2 x3 H locs ls h hP hD hS hl
    unfold fX6_receives_0 at h
    refine lv_aload_n hx hb dX6_receives_0 rfl (lv_at hl 0 rfl) ?_
    refine lv_iload_n hx hb dX6_receives_1 rfl (lv_at hl 1 rfl) ?_
    refine lv_iload_n hx hb dX6_receives_2 rfl (lv_at hl 2 rfl) ?_
    obtain ⟨r1, hf2, h⟩ := biS h
    refine ux_calli (va_runV (As := [.int x1, .int x2]) (rest := []) ⟨hx, hb, hml, hown, hts⟩ (tX6_hasRoom l dC dI cy ad τ nb hτ σ x1 x2 H.size r1 hf2) (cwV 2 hts gX6_receives_X6_hasRoom rfl rfl rfl (by decide +kernel) ⟨Nat.le_of_ble_eq_true rfl, Nat.le_of_ble_eq_true rfl⟩) (wp_V hK hN hP hD (va_recv hK hP (ci := 6) (q0 := 18) rfl (wG_of (Nat.lt_of_lt_of_le (Nat.le_of_ble_eq_true rfl : 18 < 182) (Nat.le_add_right _ _)) (cC_18 _ _ _ _ _)))) rfl rfl hl.1 rfl (lv_room (Nat.le_of_ble_eq_true rfl)) dX6_receives_3 ⟨Nat.le_of_ble_eq_true rfl, Nat.le_of_ble_eq_true rfl⟩) hD hS hA (fun H locs hP hD hS => ?_)
    refine lv_if_eq (tgt := 23) hx hb dX6_receives_6 (by decide) (fun hcd => ?_) (fun hcd => ?_)
    · have h := cdP hcd h
      refine lv_iconst (v := 0) hx hb dX6_receives_23 (by decide) ?_
      exact ux_zret hx hb hr rfl h hP hD hS hlocks dX6_receives_24
    · have h := cdN hcd h
      refine lv_aload_n hx hb dX6_receives_9 rfl (lv_at hl 0 rfl) ?_
      refine lv_iload_n hx hb dX6_receives_10 rfl (lv_at hl 1 rfl) ?_
      refine lv_iload_n hx hb dX6_receives_11 rfl (lv_at hl 2 rfl) ?_
      refine lv_iload_n hx hb dX6_receives_12 rfl (lv_at hl 3 rfl) ?_
      obtain ⟨r3, σ4, hf5, h⟩ := bsS h
      refine ux_calli (va_runV (As := [.int x1, .int x2, .int x3]) (rest := []) ⟨hx, hb, hml, hown, hts⟩ (tX6_takesGreater l dC dI cy ad τ nb hτ σ x1 x2 x3 H.size r3 σ4 hf5) (cwV 3 hts gX6_receives_X6_takesGreater rfl rfl rfl (by decide +kernel) ⟨Nat.le_of_ble_eq_true rfl, Nat.le_of_ble_eq_true rfl⟩) (wp_V hK hN hP hD (va_recv hK hP (ci := 6) (q0 := 18) rfl (wG_of (Nat.lt_of_lt_of_le (Nat.le_of_ble_eq_true rfl : 18 < 182) (Nat.le_add_right _ _)) (cC_18 _ _ _ _ _)))) rfl rfl hl.1 rfl (lv_room (Nat.le_of_ble_eq_true rfl)) dX6_receives_13 ⟨Nat.le_of_ble_eq_true rfl, Nat.le_of_ble_eq_true rfl⟩) hD hS hA (fun H locs hP hD hS => ?_)
      refine lv_if_eq (tgt := 23) hx hb dX6_receives_16 (by decide) (fun hcd => ?_) (fun hcd => ?_)
      · have h := cdP hcd h
        refine lv_iconst (v := 0) hx hb dX6_receives_23 (by decide) ?_
        exact ux_zret hx hb hr rfl h hP hD hS hlocks dX6_receives_24
      · have h := cdN hcd h
        refine lv_iconst (v := 1) hx hb dX6_receives_19 (by decide) ?_
        refine lv_goto (tgt := 24) hx hb dX6_receives_20 (by decide) ?_
        exact ux_zret hx hb hr rfl h hP hD hS hlocks dX6_receives_24
  intro H locs ls h hP hD hS hl
  exact w0 σ a1 a2 a3 H locs ls h hP hD hS (lv_sub hl [0, 1, 2, 3] rfl)

set_option maxHeartbeats 4000000 in
set_option maxRecDepth 100000 in
theorem tX6_reaches (l : Launch) (dC : Nat → ClassId) (dI : Nat → Nat → Nat) (cy : Nat → ClassId) (ad : Nat → Nat) (τ nb : Nat) (hτ : τ < nb) (σ : S2) (a1 : Int32) (a2 : Int32) (sz : Nat) (r0 : Int32) (σ9 : S2) (h : fX6_reaches τ σ a1 a2 = some (r0, σ9)) : Met l yX6_reaches wsX6_reaches ({ frames := 5, cells := 0, slots := 0, locals := 114 }) (va_Pc [.ref (ad 18), .int a1, .int a2] (wPre (dC, dI) cy (wG (cC cy ad τ) ad (182 + 6 * nb) σ) sz)) (va_Qi (fun (r : Int32) (_ : Unit) => r = r0) (fun (_ : Unit) t => wAt (dC, dI) (va_A (wG (cC cy ad τ) ad (182 + 6 * nb) σ) sz) (wG (cC cy ad τ) ad (182 + 6 * nb) σ9) t) (va_A (wG (cC cy ad τ) ad (182 + 6 * nb) σ) sz)) 0 0 (va_A (wG (cC cy ad τ) ad (182 + 6 * nb) σ) sz) := by
  refine Met.ofW (cc := cX6_reaches) (maxL := 3) (ret := (some .boolean)) (by decide) rfl ?_
  intro p e s m args below meth c s₁ B hml hv
  obtain ⟨rfl, hsz, hP, hK, hD0, hN⟩ := hv
  have hx := B.exec
  have hb := B.bytes
  have hr := B.returns
  have hts := atoms_spec (ws := wsX6_reaches) B.pre
  have hown : s.vm.findClass RX6 = some m.cls := findClass_of_methodNamed B.named
  have hlocks := B.notSynchronized
  subst hsz
  have hD := hD0.self (sz := s.heap.size)
  generalize hAe : va_A (wG (cC cy ad τ) ad (182 + 6 * nb) σ) s.heap.size = A at hD ⊢
  have hA : ∀ q : Nat, s.heap.size ≤ q → A q := fun q h => by rw [← hAe]; exact Or.inr h
  have hS : va_S A s.heap s.heap [] := va_S.rf
  have hl := lv_entry ([.ref (ad 18), .int a1, .int a2]) (n := 3) (Nat.le_of_ble_eq_true rfl)
  rw [lg_entry_eq]
  generalize (lg_sl ([.ref (ad 18), .int a1, .int a2]) ++ List.replicate (3 - (lg_sl ([.ref (ad 18), .int a1, .int a2])).length) Slot.unset).toArray = ls at hl ⊢
  have hl : lv_has ls 3 [(0, .ref (ad 18)), (1, .int a1), (2, .int a2)] := hl
  unfold fX6_reaches at h
  clear hAe hD0
  suffices HH : ∀ (H : Heap) (locs : List Loc) (ls : Array Slot), fX6_reaches_0 τ σ a1 a2 = some (r0, σ9) → va_P (dC, dI) vwCl (wG (cC cy ad τ) ad (182 + 6 * nb) σ) H → va_D A (wG (cC cy ad τ) ad (182 + 6 * nb) σ) → va_S A s.heap H locs → lv_has ls 3 [(0, .ref (ad 18)), (1, .int a1), (2, .int a2)] → W p l e (headSpec wsX6_reaches ({ frames := 5, cells := 0, slots := 0, locals := 114 })).room s m (#[.ref (ad 18), .int a1, .int a2]) below meth c H locs 0 0 (MQ below (va_Qi (fun (r : Int32) (_ : Unit) => r = r0) (fun (_ : Unit) t => wAt (dC, dI) A (wG (cC cy ad τ) ad (182 + 6 * nb) σ9) t) A) (#[.ref (ad 18), .int a1, .int a2]) s 0 0 A) (F0 m 0 ls []) from HH s.heap [] ls h hP hD hS hl
  have w0 : ∀ (σ : S2) (x1 : Int32) (x2 : Int32) (H : Heap) (locs : List Loc) (ls : Array Slot), fX6_reaches_0 τ σ x1 x2 = some (r0, σ9) → va_P (dC, dI) vwCl (wG (cC cy ad τ) ad (182 + 6 * nb) σ) H → va_D A (wG (cC cy ad τ) ad (182 + 6 * nb) σ) → va_S A s.heap H locs → lv_has ls 3 [(0, .ref (ad 18)), (1, .int x1), (2, .int x2)] → W p l e (headSpec wsX6_reaches ({ frames := 5, cells := 0, slots := 0, locals := 114 })).room s m (#[.ref (ad 18), .int a1, .int a2]) below meth c H locs 0 0 (MQ below (va_Qi (fun (r : Int32) (_ : Unit) => r = r0) (fun (_ : Unit) t => wAt (dC, dI) A (wG (cC cy ad τ) ad (182 + 6 * nb) σ9) t) A) (#[.ref (ad 18), .int a1, .int a2]) s 0 0 A) (F0 m 0 ls []) := by
    intro σ x1 x2 H locs ls h hP hD hS hl
    unfold fX6_reaches_0 at h
    refine lv_aload_n hx hb dX6_reaches_0 rfl (lv_at hl 0 rfl) ?_
    refine ux_get (D := (dC, dI)) (ci := 6) (v := .ref (ad 7)) (C := RX6) (T := TX6) (M := 12) (fs := (oPC ad (σ.1 18))) hx hb hts (fun _ h9 => List.mem_cons_of_mem _ (List.mem_append_left _ (List.mem_append_left _ (List.mem_append_right _ h9)))) hown hK hP 18 (Nat.lt_of_lt_of_le (Nat.le_of_ble_eq_true rfl : 18 < 182) (Nat.le_add_right _ _)) (cC_18 _ _ _ _ _) rfl 9 (by decide) (hts (.fieldLink RX6 42 "SeatsRound$Parcels" "keepers" "LSeatsRound$Keepers;") (List.mem_of_getElem? (i := 1) rfl)) (fun _ h9 => h9) rfl dX6_reaches_1 ?_
    refine ux_get (D := (dC, dI)) (ci := 2) (v := .ref (ad 12)) (C := RX2) (T := TX2) (M := 6) (fs := (oKP ad (σ.1 7))) hx hb hts (fun _ h9 => List.mem_cons_of_mem _ (List.mem_append_left _ (List.mem_append_right _ h9))) hown hK hP 7 (Nat.lt_of_lt_of_le (Nat.le_of_ble_eq_true rfl : 7 < 182) (Nat.le_add_right _ _)) (cC_7 _ _ _ _ _) rfl 4 (by decide) (hts (.fieldLink RX6 81 "SeatsRound$Keepers" "fallen" "[Z") (List.mem_of_getElem? (i := 2) rfl)) (fun _ h9 => h9) rfl dX6_reaches_4 ?_
    refine lv_iload_n hx hb dX6_reaches_7 rfl (lv_at hl 1 rfl) ?_
    refine ux_zald hx hb hK hP 12 2 (Nat.lt_of_lt_of_le (Nat.le_of_ble_eq_true rfl : 12 < 182) (Nat.le_add_right _ _)) (cC_12 _ _ _ _ _) rfl h dX6_reaches_8 (fun v1 h => ?_)
    refine lv_if_eq (tgt := 14) hx hb dX6_reaches_9 (by decide) (fun hcd => ?_) (fun hcd => ?_)
    · have h := cdP hcd h
      refine lv_aload_n hx hb dX6_reaches_14 rfl (lv_at hl 0 rfl) ?_
      refine ux_get (D := (dC, dI)) (ci := 6) (v := .ref (ad 7)) (C := RX6) (T := TX6) (M := 12) (fs := (oPC ad (σ.1 18))) hx hb hts (fun _ h9 => List.mem_cons_of_mem _ (List.mem_append_left _ (List.mem_append_left _ (List.mem_append_right _ h9)))) hown hK hP 18 (Nat.lt_of_lt_of_le (Nat.le_of_ble_eq_true rfl : 18 < 182) (Nat.le_add_right _ _)) (cC_18 _ _ _ _ _) rfl 9 (by decide) (hts (.fieldLink RX6 42 "SeatsRound$Parcels" "keepers" "LSeatsRound$Keepers;") (List.mem_of_getElem? (i := 1) rfl)) (fun _ h9 => h9) rfl dX6_reaches_15 ?_
      refine ux_get (D := (dC, dI)) (ci := 2) (v := .ref (ad 8)) (C := RX2) (T := TX2) (M := 6) (fs := (oKP ad (σ.1 7))) hx hb hts (fun _ h9 => List.mem_cons_of_mem _ (List.mem_append_left _ (List.mem_append_right _ h9))) hown hK hP 7 (Nat.lt_of_lt_of_le (Nat.le_of_ble_eq_true rfl : 7 < 182) (Nat.le_add_right _ _)) (cC_7 _ _ _ _ _) rfl 0 (by decide) (hts (.fieldLink RX6 87 "SeatsRound$Keepers" "kind" "[I") (List.mem_of_getElem? (i := 3) rfl)) (fun _ h9 => h9) rfl dX6_reaches_18 ?_
      refine lv_iload_n hx hb dX6_reaches_21 rfl (lv_at hl 1 rfl) ?_
      refine ux_iald hx hb hK hP 8 0 (Nat.lt_of_lt_of_le (Nat.le_of_ble_eq_true rfl : 8 < 182) (Nat.le_add_right _ _)) (cC_8 _ _ _ _ _) rfl h dX6_reaches_22 (fun v2 h => ?_)
      refine lv_iconst (v := 4) hx hb dX6_reaches_23 (by decide) ?_
      refine lv_icmp_ne (tgt := 34) hx hb dX6_reaches_24 (by decide) (fun hcd => ?_) (fun hcd => ?_)
      · have h := cdN hcd h
        refine lv_aload_n hx hb dX6_reaches_34 rfl (lv_at hl 0 rfl) ?_
        refine lv_iload_n hx hb dX6_reaches_35 rfl (lv_at hl 1 rfl) ?_
        refine lv_iload_n hx hb dX6_reaches_36 rfl (lv_at hl 2 rfl) ?_
        refine lv_aload_n hx hb dX6_reaches_37 rfl (lv_at hl 0 rfl) ?_
        refine ux_get (D := (dC, dI)) (ci := 6) (v := .ref (ad 24)) (C := RX6) (T := TX6) (M := 12) (fs := (oPC ad (σ.1 18))) hx hb hts (fun _ h9 => List.mem_cons_of_mem _ (List.mem_append_left _ (List.mem_append_left _ (List.mem_append_right _ h9)))) hown hK hP 18 (Nat.lt_of_lt_of_le (Nat.le_of_ble_eq_true rfl : 18 < 182) (Nat.le_add_right _ _)) (cC_18 _ _ _ _ _) rfl 5 (by decide) (hts (.fieldLink RX6 28 "SeatsRound$Parcels" "latest" "[I") (List.mem_of_getElem? (i := 4) rfl)) (fun _ h9 => h9) rfl dX6_reaches_38 ?_
        refine lv_iload_n hx hb dX6_reaches_41 rfl (lv_at hl 2 rfl) ?_
        refine ux_iald hx hb hK hP 24 0 (Nat.lt_of_lt_of_le (Nat.le_of_ble_eq_true rfl : 24 < 182) (Nat.le_add_right _ _)) (cC_24 _ _ _ _ _) rfl h dX6_reaches_42 (fun v3 h => ?_)
        obtain ⟨r4, σ5, hf6, h⟩ := bsS h
        refine ux_calli (va_runV (As := [.int x1, .int x2, .int v3]) (rest := []) ⟨hx, hb, hml, hown, hts⟩ (tX6_receives l dC dI cy ad τ nb hτ σ x1 x2 v3 H.size r4 σ5 hf6) (cwV 3 hts gX6_reaches_X6_receives rfl rfl rfl (by decide +kernel) ⟨Nat.le_of_ble_eq_true rfl, Nat.le_of_ble_eq_true rfl⟩) (wp_V hK hN hP hD (va_recv hK hP (ci := 6) (q0 := 18) rfl (wG_of (Nat.lt_of_lt_of_le (Nat.le_of_ble_eq_true rfl : 18 < 182) (Nat.le_add_right _ _)) (cC_18 _ _ _ _ _)))) rfl rfl hl.1 rfl (lv_room (Nat.le_of_ble_eq_true rfl)) dX6_reaches_43 ⟨Nat.le_of_ble_eq_true rfl, Nat.le_of_ble_eq_true rfl⟩) hD hS hA (fun H locs hP hD hS => ?_)
        obtain ⟨hz7, h⟩ := zbS h
        exact ux_zret hx hb hr hz7 h hP hD hS hlocks dX6_reaches_46
      · have h := cdP hcd h
        refine lv_aload_n hx hb dX6_reaches_27 rfl (lv_at hl 0 rfl) ?_
        refine lv_iload_n hx hb dX6_reaches_28 rfl (lv_at hl 1 rfl) ?_
        refine lv_iload_n hx hb dX6_reaches_29 rfl (lv_at hl 2 rfl) ?_
        obtain ⟨r8, σ9, hf10, h⟩ := bsS h
        refine ux_calli (va_runV (As := [.int x1, .int x2]) (rest := []) ⟨hx, hb, hml, hown, hts⟩ (tX6_isKeptFor l dC dI cy ad τ nb hτ σ x1 x2 H.size r8 σ9 hf10) (cwV 2 hts gX6_reaches_X6_isKeptFor rfl rfl rfl (by decide +kernel) ⟨Nat.le_of_ble_eq_true rfl, Nat.le_of_ble_eq_true rfl⟩) (wp_V hK hN hP hD (va_recv hK hP (ci := 6) (q0 := 18) rfl (wG_of (Nat.lt_of_lt_of_le (Nat.le_of_ble_eq_true rfl : 18 < 182) (Nat.le_add_right _ _)) (cC_18 _ _ _ _ _)))) rfl rfl hl.1 rfl (lv_room (Nat.le_of_ble_eq_true rfl)) dX6_reaches_30 ⟨Nat.le_of_ble_eq_true rfl, Nat.le_of_ble_eq_true rfl⟩) hD hS hA (fun H locs hP hD hS => ?_)
        obtain ⟨hz11, h⟩ := zbS h
        exact ux_zret hx hb hr hz11 h hP hD hS hlocks dX6_reaches_33
    · have h := cdN hcd h
      refine lv_iconst (v := 0) hx hb dX6_reaches_12 (by decide) ?_
      exact ux_zret hx hb hr rfl h hP hD hS hlocks dX6_reaches_13
  intro H locs ls h hP hD hS hl
  exact w0 σ a1 a2 H locs ls h hP hD hS (lv_sub hl [0, 1, 2] rfl)

set_option maxHeartbeats 4000000 in
set_option maxRecDepth 100000 in
theorem tX6_spread (l : Launch) (dC : Nat → ClassId) (dI : Nat → Nat → Nat) (cy : Nat → ClassId) (ad : Nat → Nat) (τ nb : Nat) (hτ : τ < nb) (b1 : Nat) (hb1 : b1 < nb) (σ : S2) (a2 : Int32) (sz : Nat) (r0 : Int32) (σ9 : S2) (h : fX6_spread τ b1 σ a2 = some (r0, σ9)) : Met l yX6_spread wsX6_spread ({ frames := 6, cells := 0, slots := 0, locals := 136 }) (va_Pc [.ref (ad 18), .ref (ad (182 + 6 * b1)), .int a2] (wPre (dC, dI) cy (wG (cC cy ad τ) ad (182 + 6 * nb) σ) sz)) (va_Qi (fun (r : Int32) (_ : Unit) => r = r0) (fun (_ : Unit) t => wAt (dC, dI) (va_A (wG (cC cy ad τ) ad (182 + 6 * nb) σ) sz) (wG (cC cy ad τ) ad (182 + 6 * nb) σ9) t) (va_A (wG (cC cy ad τ) ad (182 + 6 * nb) σ) sz)) 0 0 (va_A (wG (cC cy ad τ) ad (182 + 6 * nb) σ) sz) := by
  refine Met.ofW (cc := cX6_spread) (maxL := 5) (ret := (some .int)) (by decide) rfl ?_
  intro p e s m args below meth c s₁ B hml hv
  obtain ⟨rfl, hsz, hP, hK, hD0, hN⟩ := hv
  have hx := B.exec
  have hb := B.bytes
  have hr := B.returns
  have hts := atoms_spec (ws := wsX6_spread) B.pre
  have hown : s.vm.findClass RX6 = some m.cls := findClass_of_methodNamed B.named
  have hlocks := B.notSynchronized
  subst hsz
  have hD := hD0.self (sz := s.heap.size)
  generalize hAe : va_A (wG (cC cy ad τ) ad (182 + 6 * nb) σ) s.heap.size = A at hD ⊢
  have hA : ∀ q : Nat, s.heap.size ≤ q → A q := fun q h => by rw [← hAe]; exact Or.inr h
  have hS : va_S A s.heap s.heap [] := va_S.rf
  have hl := lv_entry ([.ref (ad 18), .ref (ad (182 + 6 * b1)), .int a2]) (n := 5) (Nat.le_of_ble_eq_true rfl)
  rw [lg_entry_eq]
  generalize (lg_sl ([.ref (ad 18), .ref (ad (182 + 6 * b1)), .int a2]) ++ List.replicate (5 - (lg_sl ([.ref (ad 18), .ref (ad (182 + 6 * b1)), .int a2])).length) Slot.unset).toArray = ls at hl ⊢
  have hl : lv_has ls 5 [(0, .ref (ad 18)), (1, .ref (ad (182 + 6 * b1))), (2, .int a2)] := hl
  unfold fX6_spread at h
  clear hAe hD0
  suffices HH : ∀ (H : Heap) (locs : List Loc) (ls : Array Slot), fX6_spread_0 τ b1 σ a2 = some (r0, σ9) → va_P (dC, dI) vwCl (wG (cC cy ad τ) ad (182 + 6 * nb) σ) H → va_D A (wG (cC cy ad τ) ad (182 + 6 * nb) σ) → va_S A s.heap H locs → lv_has ls 5 [(0, .ref (ad 18)), (1, .ref (ad (182 + 6 * b1))), (2, .int a2)] → W p l e (headSpec wsX6_spread ({ frames := 6, cells := 0, slots := 0, locals := 136 })).room s m (#[.ref (ad 18), .ref (ad (182 + 6 * b1)), .int a2]) below meth c H locs 0 0 (MQ below (va_Qi (fun (r : Int32) (_ : Unit) => r = r0) (fun (_ : Unit) t => wAt (dC, dI) A (wG (cC cy ad τ) ad (182 + 6 * nb) σ9) t) A) (#[.ref (ad 18), .ref (ad (182 + 6 * b1)), .int a2]) s 0 0 A) (F0 m 0 ls []) from HH s.heap [] ls h hP hD hS hl
  have w78 : ∀ (k45 : S2 → Int32 → Int32 → Int32 → Option (Int32 × S2)) (hk45 : ∀ (σ : S2) (x2 : Int32) (x3 : Int32) (x4 : Int32) (H : Heap) (locs : List Loc) (ls : Array Slot), k45 σ x2 x3 x4 = some (r0, σ9) → va_P (dC, dI) vwCl (wG (cC cy ad τ) ad (182 + 6 * nb) σ) H → va_D A (wG (cC cy ad τ) ad (182 + 6 * nb) σ) → va_S A s.heap H locs → lv_has ls 5 [(0, .ref (ad 18)), (2, .int x2), (3, .int x3), (4, .int x4)] → W p l e (headSpec wsX6_spread ({ frames := 6, cells := 0, slots := 0, locals := 136 })).room s m (#[.ref (ad 18), .ref (ad (182 + 6 * b1)), .int a2]) below meth c H locs 0 0 (MQ below (va_Qi (fun (r : Int32) (_ : Unit) => r = r0) (fun (_ : Unit) t => wAt (dC, dI) A (wG (cC cy ad τ) ad (182 + 6 * nb) σ9) t) A) (#[.ref (ad 18), .ref (ad (182 + 6 * b1)), .int a2]) s 0 0 A) (F0 m 45 ls [])) , ∀ (σ : S2) (x2 : Int32) (x3 : Int32) (x4 : Int32) (H : Heap) (locs : List Loc) (ls : Array Slot), fX6_spread_78 τ b1 k45 σ x2 x3 x4 = some (r0, σ9) → va_P (dC, dI) vwCl (wG (cC cy ad τ) ad (182 + 6 * nb) σ) H → va_D A (wG (cC cy ad τ) ad (182 + 6 * nb) σ) → va_S A s.heap H locs → lv_has ls 5 [(0, .ref (ad 18)), (2, .int x2), (3, .int x3), (4, .int x4)] → W p l e (headSpec wsX6_spread ({ frames := 6, cells := 0, slots := 0, locals := 136 })).room s m (#[.ref (ad 18), .ref (ad (182 + 6 * b1)), .int a2]) below meth c H locs 0 0 (MQ below (va_Qi (fun (r : Int32) (_ : Unit) => r = r0) (fun (_ : Unit) t => wAt (dC, dI) A (wG (cC cy ad τ) ad (182 + 6 * nb) σ9) t) A) (#[.ref (ad 18), .ref (ad (182 + 6 * b1)), .int a2]) s 0 0 A) (F0 m 78 ls []) := by
    intro k45 hk45 σ x2 x3 x4 H locs ls h hP hD hS hl
    unfold fX6_spread_78 at h
    obtain ⟨v1, ev1⟩ : ∃ y : Int32, y = x4 + 1 := ⟨_, rfl⟩
    have h := nmS h ev1
    refine lv_iinc (v := v1) (lv' := [(4, .int v1), (0, .ref (ad 18)), (2, .int x2), (3, .int x3)]) hx hb dX6_spread_78 hl (k := 3) rfl (by rw [ev1]; rfl) (by decide) rfl (fun ls hl => ?_)
    have hl := lv_sub hl [1, 2, 3, 0] (l' := [(0, .ref (ad 18)), (2, .int x2), (3, .int x3), (4, .int v1)]) rfl
    refine lv_goto (tgt := 45) hx hb dX6_spread_81 (by decide) ?_
    exact hk45 σ x2 x3 v1 H locs ls h hP hD hS hl
  have w45 : ∀ (n : Nat), ∀ (σ : S2) (x2 : Int32) (x3 : Int32) (x4 : Int32) (H : Heap) (locs : List Loc) (ls : Array Slot), fX6_spread_45 τ b1 n σ x2 x3 x4 = some (r0, σ9) → va_P (dC, dI) vwCl (wG (cC cy ad τ) ad (182 + 6 * nb) σ) H → va_D A (wG (cC cy ad τ) ad (182 + 6 * nb) σ) → va_S A s.heap H locs → lv_has ls 5 [(0, .ref (ad 18)), (2, .int x2), (3, .int x3), (4, .int x4)] → W p l e (headSpec wsX6_spread ({ frames := 6, cells := 0, slots := 0, locals := 136 })).room s m (#[.ref (ad 18), .ref (ad (182 + 6 * b1)), .int a2]) below meth c H locs 0 0 (MQ below (va_Qi (fun (r : Int32) (_ : Unit) => r = r0) (fun (_ : Unit) t => wAt (dC, dI) A (wG (cC cy ad τ) ad (182 + 6 * nb) σ9) t) A) (#[.ref (ad 18), .ref (ad (182 + 6 * b1)), .int a2]) s 0 0 A) (F0 m 45 ls []) := by
    intro n
    induction n with
    | zero => intro σ x2 x3 x4 H locs ls h; cases h
    | succ n ih =>
    intro σ x2 x3 x4 H locs ls h hP hD hS hl
    unfold fX6_spread_45 at h
    refine lv_iload hx hb dX6_spread_45 (lv_at hl 3 rfl) ?_
    refine lv_aload_n hx hb dX6_spread_47 rfl (lv_at hl 0 rfl) ?_
    refine ux_get (D := (dC, dI)) (ci := 6) (v := .ref (ad 14)) (C := RX6) (T := TX6) (M := 12) (fs := (oPC ad (σ.1 18))) hx hb hts (fun _ h9 => List.mem_cons_of_mem _ (List.mem_append_left _ (List.mem_append_left _ (List.mem_append_left _ (List.mem_append_left _ (List.mem_append_right _ h9)))))) hown hK hP 18 (Nat.lt_of_lt_of_le (Nat.le_of_ble_eq_true rfl : 18 < 182) (Nat.le_add_right _ _)) (cC_18 _ _ _ _ _) rfl 11 (by decide) (hts (.fieldLink RX6 50 "SeatsRound$Parcels" "choice" "LSeatsRound$Choice;") (List.mem_of_getElem? (i := 3) rfl)) (fun _ h9 => h9) rfl dX6_spread_48 ?_
    refine ux_get (D := (dC, dI)) (ci := 1) (v := .int (σ.1 14 3)) (C := RX1) (T := TX1) (M := 9) (fs := (oCH ad (σ.1 14))) hx hb hts (fun _ h9 => List.mem_cons_of_mem _ (List.mem_append_left _ (List.mem_append_left _ (List.mem_append_right _ h9)))) hown hK hP 14 (Nat.lt_of_lt_of_le (Nat.le_of_ble_eq_true rfl : 14 < 182) (Nat.le_add_right _ _)) (cC_14 _ _ _ _ _) rfl 3 (by decide) (hts (.fieldLink RX6 71 "SeatsRound$Choice" "chosenCount" "I") (List.mem_of_getElem? (i := 6) rfl)) (fun _ h9 => h9) rfl dX6_spread_51 ?_
    refine lv_icmp_ge (tgt := 84) hx hb dX6_spread_54 (by decide) (fun hcd => ?_) (fun hcd => ?_)
    · have h := cdP hcd h
      refine lv_iload_n hx hb dX6_spread_84 rfl (lv_at hl 2 rfl) ?_
      exact ux_iret hx hb hr h hP hD hS hlocks dX6_spread_85
    · have h := cdN hcd h
      refine lv_aload_n hx hb dX6_spread_57 rfl (lv_at hl 0 rfl) ?_
      refine lv_aload_n hx hb dX6_spread_58 rfl (lv_at hl 0 rfl) ?_
      refine ux_get (D := (dC, dI)) (ci := 6) (v := .ref (ad 14)) (C := RX6) (T := TX6) (M := 12) (fs := (oPC ad (σ.1 18))) hx hb hts (fun _ h9 => List.mem_cons_of_mem _ (List.mem_append_left _ (List.mem_append_left _ (List.mem_append_left _ (List.mem_append_left _ (List.mem_append_right _ h9)))))) hown hK hP 18 (Nat.lt_of_lt_of_le (Nat.le_of_ble_eq_true rfl : 18 < 182) (Nat.le_add_right _ _)) (cC_18 _ _ _ _ _) rfl 11 (by decide) (hts (.fieldLink RX6 50 "SeatsRound$Parcels" "choice" "LSeatsRound$Choice;") (List.mem_of_getElem? (i := 3) rfl)) (fun _ h9 => h9) rfl dX6_spread_59 ?_
      refine ux_get (D := (dC, dI)) (ci := 1) (v := .ref (ad 16)) (C := RX1) (T := TX1) (M := 9) (fs := (oCH ad (σ.1 14))) hx hb hts (fun _ h9 => List.mem_cons_of_mem _ (List.mem_append_left _ (List.mem_append_left _ (List.mem_append_right _ h9)))) hown hK hP 14 (Nat.lt_of_lt_of_le (Nat.le_of_ble_eq_true rfl : 14 < 182) (Nat.le_add_right _ _)) (cC_14 _ _ _ _ _) rfl 1 (by decide) (hts (.fieldLink RX6 74 "SeatsRound$Choice" "chosen" "[I") (List.mem_of_getElem? (i := 7) rfl)) (fun _ h9 => h9) rfl dX6_spread_62 ?_
      refine lv_iload hx hb dX6_spread_65 (lv_at hl 3 rfl) ?_
      refine ux_iald hx hb hK hP 16 0 (Nat.lt_of_lt_of_le (Nat.le_of_ble_eq_true rfl : 16 < 182) (Nat.le_add_right _ _)) (cC_16 _ _ _ _ _) rfl h dX6_spread_67 (fun v2 h => ?_)
      refine lv_iload_n hx hb dX6_spread_68 rfl (lv_at hl 1 rfl) ?_
      obtain ⟨r3, σ4, hf5, h⟩ := bsS h
      refine ux_calli (va_runV (As := [.int v2, .int x2]) (rest := []) ⟨hx, hb, hml, hown, hts⟩ (tX6_reaches l dC dI cy ad τ nb hτ σ v2 x2 H.size r3 σ4 hf5) (cwV 2 hts gX6_spread_X6_reaches rfl rfl rfl (by decide +kernel) ⟨Nat.le_of_ble_eq_true rfl, Nat.le_of_ble_eq_true rfl⟩) (wp_V hK hN hP hD (va_recv hK hP (ci := 6) (q0 := 18) rfl (wG_of (Nat.lt_of_lt_of_le (Nat.le_of_ble_eq_true rfl : 18 < 182) (Nat.le_add_right _ _)) (cC_18 _ _ _ _ _)))) rfl rfl hl.1 rfl (lv_room (Nat.le_of_ble_eq_true rfl)) dX6_spread_69 ⟨Nat.le_of_ble_eq_true rfl, Nat.le_of_ble_eq_true rfl⟩) hD hS hA (fun H locs hP hD hS => ?_)
      refine lv_if_eq (tgt := 78) hx hb dX6_spread_72 (by decide) (fun hcd => ?_) (fun hcd => ?_)
      · have h := cdP hcd h
        exact w78 _ ih σ4 x2 x3 x4 H locs ls h hP hD hS hl
      · have h := cdN hcd h
        obtain ⟨v6, ev6⟩ : ∃ y : Int32, y = x3 + 1 := ⟨_, rfl⟩
        have h := nmS h ev6
        refine lv_iinc (v := v6) (lv' := [(3, .int v6), (0, .ref (ad 18)), (2, .int x2), (4, .int x4)]) hx hb dX6_spread_75 hl (k := 2) rfl (by rw [ev6]; rfl) (by decide) rfl (fun ls hl => ?_)
        have hl := lv_sub hl [1, 2, 0, 3] (l' := [(0, .ref (ad 18)), (2, .int x2), (3, .int v6), (4, .int x4)]) rfl
        exact w78 _ ih σ4 x2 v6 x4 H locs ls h hP hD hS hl
  have w0 : ∀ (σ : S2) (x2 : Int32) (H : Heap) (locs : List Loc) (ls : Array Slot), fX6_spread_0 τ b1 σ x2 = some (r0, σ9) → va_P (dC, dI) vwCl (wG (cC cy ad τ) ad (182 + 6 * nb) σ) H → va_D A (wG (cC cy ad τ) ad (182 + 6 * nb) σ) → va_S A s.heap H locs → lv_has ls 5 [(0, .ref (ad 18)), (1, .ref (ad (182 + 6 * b1))), (2, .int x2)] → W p l e (headSpec wsX6_spread ({ frames := 6, cells := 0, slots := 0, locals := 136 })).room s m (#[.ref (ad 18), .ref (ad (182 + 6 * b1)), .int a2]) below meth c H locs 0 0 (MQ below (va_Qi (fun (r : Int32) (_ : Unit) => r = r0) (fun (_ : Unit) t => wAt (dC, dI) A (wG (cC cy ad τ) ad (182 + 6 * nb) σ9) t) A) (#[.ref (ad 18), .ref (ad (182 + 6 * b1)), .int a2]) s 0 0 A) (F0 m 0 ls []) := by
    intro σ x2 H locs ls h hP hD hS hl
    unfold fX6_spread_0 at h
    refine lv_aload_n hx hb dX6_spread_0 rfl (lv_at hl 0 rfl) ?_
    refine lv_dup hx hb dX6_spread_1 rfl ?_
    refine ux_get (D := (dC, dI)) (ci := 6) (v := .int (σ.1 18 8)) (C := RX6) (T := TX6) (M := 12) (fs := (oPC ad (σ.1 18))) hx hb hts (fun _ h9 => List.mem_cons_of_mem _ (List.mem_append_left _ (List.mem_append_left _ (List.mem_append_left _ (List.mem_append_left _ (List.mem_append_right _ h9)))))) hown hK hP 18 (Nat.lt_of_lt_of_le (Nat.le_of_ble_eq_true rfl : 18 < 182) (Nat.le_add_right _ _)) (cC_18 _ _ _ _ _) rfl 8 (by decide) (hts (.fieldLink RX6 38 "SeatsRound$Parcels" "writings" "I") (List.mem_of_getElem? (i := 1) rfl)) (fun _ h9 => h9) rfl dX6_spread_2 ?_
    refine lv_iconst (v := 1) hx hb dX6_spread_5 (by decide) ?_
    refine lv_iadd hx hb dX6_spread_6 ?_
    refine ux_put (D := (dC, dI)) (ci := 6) (C := RX6) (T := TX6) (M := 12) (fs := (oPC ad (σ.1 18))) hx hb hts (fun _ h9 => List.mem_cons_of_mem _ (List.mem_append_left _ (List.mem_append_left _ (List.mem_append_left _ (List.mem_append_left _ (List.mem_append_right _ h9)))))) tyX6 tyX6_ok nmX6 hown hK hP hD hS 18 (Nat.lt_of_lt_of_le (Nat.le_of_ble_eq_true rfl : 18 < 182) (Nat.le_add_right _ _)) (cC_18 _ _ _ _ _) rfl 8 (by decide) (hts (.fieldLink RX6 38 "SeatsRound$Parcels" "writings" "I") (List.mem_of_getElem? (i := 1) rfl)) (fun _ h9 => h9) rfl (tyX6_ok 8 (by decide)) rfl rfl (Nat.le_of_ble_eq_true rfl) (oC_18_8 _ _ _ _ _ _) h dX6_spread_7 (fun σ7 H locs h hP hD hS => ?_)
    refine lv_aload_n hx hb dX6_spread_10 rfl (lv_at hl 0 rfl) ?_
    refine ux_get (D := (dC, dI)) (ci := 6) (v := .ref (ad 24)) (C := RX6) (T := TX6) (M := 12) (fs := (oPC ad (σ7.1 18))) hx hb hts (fun _ h9 => List.mem_cons_of_mem _ (List.mem_append_left _ (List.mem_append_left _ (List.mem_append_left _ (List.mem_append_left _ (List.mem_append_right _ h9)))))) hown hK hP 18 (Nat.lt_of_lt_of_le (Nat.le_of_ble_eq_true rfl : 18 < 182) (Nat.le_add_right _ _)) (cC_18 _ _ _ _ _) rfl 5 (by decide) (hts (.fieldLink RX6 28 "SeatsRound$Parcels" "latest" "[I") (List.mem_of_getElem? (i := 2) rfl)) (fun _ h9 => h9) rfl dX6_spread_11 ?_
    refine lv_iload_n hx hb dX6_spread_14 rfl (lv_at hl 2 rfl) ?_
    refine lv_dup2_11 hx hb dX6_spread_15 rfl rfl ?_
    refine ux_iald hx hb hK hP 24 0 (Nat.lt_of_lt_of_le (Nat.le_of_ble_eq_true rfl : 24 < 182) (Nat.le_add_right _ _)) (cC_24 _ _ _ _ _) rfl h dX6_spread_16 (fun v8 h => ?_)
    refine lv_iconst (v := 1) hx hb dX6_spread_17 (by decide) ?_
    refine lv_iadd hx hb dX6_spread_18 ?_
    refine ux_iast hx hb hK hP hD hS 24 0 (Nat.lt_of_lt_of_le (Nat.le_of_ble_eq_true rfl : 24 < 182) (Nat.le_add_right _ _)) (fun _ => (cC_24 _ _ _ _ _)) rfl h dX6_spread_19 (fun σ9 H locs h hP hD hS => ?_)
    refine lv_aload_n hx hb dX6_spread_20 rfl (lv_at hl 0 rfl) ?_
    refine ux_get (D := (dC, dI)) (ci := 6) (v := .ref (ad 14)) (C := RX6) (T := TX6) (M := 12) (fs := (oPC ad (σ9.1 18))) hx hb hts (fun _ h9 => List.mem_cons_of_mem _ (List.mem_append_left _ (List.mem_append_left _ (List.mem_append_left _ (List.mem_append_left _ (List.mem_append_right _ h9)))))) hown hK hP 18 (Nat.lt_of_lt_of_le (Nat.le_of_ble_eq_true rfl : 18 < 182) (Nat.le_add_right _ _)) (cC_18 _ _ _ _ _) rfl 11 (by decide) (hts (.fieldLink RX6 50 "SeatsRound$Parcels" "choice" "LSeatsRound$Choice;") (List.mem_of_getElem? (i := 3) rfl)) (fun _ h9 => h9) rfl dX6_spread_21 ?_
    refine lv_aload_n hx hb dX6_spread_24 rfl (lv_at hl 1 rfl) ?_
    refine lv_aload_n hx hb dX6_spread_25 rfl (lv_at hl 0 rfl) ?_
    refine ux_get (D := (dC, dI)) (ci := 6) (v := .ref (ad 3)) (C := RX6) (T := TX6) (M := 12) (fs := (oPC ad (σ9.1 18))) hx hb hts (fun _ h9 => List.mem_cons_of_mem _ (List.mem_append_left _ (List.mem_append_left _ (List.mem_append_left _ (List.mem_append_left _ (List.mem_append_right _ h9)))))) hown hK hP 18 (Nat.lt_of_lt_of_le (Nat.le_of_ble_eq_true rfl : 18 < 182) (Nat.le_add_right _ _)) (cC_18 _ _ _ _ _) rfl 10 (by decide) (hts (.fieldLink RX6 46 "SeatsRound$Parcels" "nameList" "LSeatsRound$NameList;") (List.mem_of_getElem? (i := 4) rfl)) (fun _ h9 => h9) rfl dX6_spread_26 ?_
    refine lv_iload_n hx hb dX6_spread_29 rfl (lv_at hl 2 rfl) ?_
    refine lv_aload_n hx hb dX6_spread_30 rfl (lv_at hl 1 rfl) ?_
    refine ux_get (D := (dC, dI)) (ci := 8) (v := .int (σ9.1 (182 + 6 * b1) 1)) (C := RX8) (T := TX8) (M := 13) (fs := (oTB ad (182 + 6 * b1) (σ9.1 (182 + 6 * b1)))) hx hb hts (fun _ h9 => List.mem_cons_of_mem _ (List.mem_append_left _ (List.mem_append_left _ (List.mem_append_left _ (List.mem_append_right _ h9))))) hown hK hP (182 + 6 * b1) (by omega) (cC_t0 _ _ _ _ _ b1) rfl 1 (by decide) (hts (.fieldLink RX6 54 "SeatsRound$Table" "turn" "I") (List.mem_of_getElem? (i := 5) rfl)) (fun _ h9 => h9) rfl dX6_spread_31 ?_
    change W _ _ _ _ _ _ _ _ _ _ _ _ _ _ _ (F0 m 34 ls [.int (σ9.1 (182 + 6 * b1) 1), .int x2, .ref (ad 3), .ref (ad (182 + 6 * b1)), .ref (ad 14)])
    obtain ⟨r10, hf11, h⟩ := biS h
    refine ux_calli (va_runV (As := [.int x2, .int (σ9.1 (182 + 6 * b1) 1)]) (rest := [.ref (ad (182 + 6 * b1)), .ref (ad 14)]) ⟨hx, hb, hml, hown, hts⟩ (tX4_placeOf l dC dI cy ad τ nb hτ σ9 x2 (σ9.1 (182 + 6 * b1) 1) H.size r10 hf11) (cwV 2 hts gX6_spread_X4_placeOf rfl rfl rfl (by decide +kernel) ⟨Nat.le_of_ble_eq_true rfl, Nat.le_of_ble_eq_true rfl⟩) (wp_V hK hN hP hD (va_recv hK hP (ci := 4) (q0 := 3) rfl (wG_of (Nat.lt_of_lt_of_le (Nat.le_of_ble_eq_true rfl : 3 < 182) (Nat.le_add_right _ _)) (cC_3 _ _ _ _ _)))) rfl rfl hl.1 rfl (lv_room (Nat.le_of_ble_eq_true rfl)) dX6_spread_34 ⟨Nat.le_of_ble_eq_true rfl, Nat.le_of_ble_eq_true rfl⟩) hD hS hA (fun H locs hP hD hS => ?_)
    obtain ⟨r12, σ13, hf14, h⟩ := bsS h
    refine ux_callv (va_runV (As := [.ref (ad (182 + 6 * b1)), .int r10]) (rest := []) ⟨hx, hb, hml, hown, hts⟩ (tX1_choose l dC dI cy ad τ nb hτ b1 (by omega) σ9 r10 H.size r12 σ13 hf14) (cwV 2 hts gX6_spread_X1_choose rfl rfl rfl (by decide +kernel) ⟨Nat.le_of_ble_eq_true rfl, Nat.le_of_ble_eq_true rfl⟩) (wp_V hK hN hP hD (va_recv hK hP (ci := 1) (q0 := 14) rfl (wG_of (Nat.lt_of_lt_of_le (Nat.le_of_ble_eq_true rfl : 14 < 182) (Nat.le_add_right _ _)) (cC_14 _ _ _ _ _)))) rfl rfl hl.1 rfl (lv_room (Nat.le_of_ble_eq_true rfl)) dX6_spread_37 ⟨Nat.le_of_ble_eq_true rfl, Nat.le_of_ble_eq_true rfl⟩) hD hS hA (fun H locs hP hD hS => ?_)
    refine lv_iconst (v := 0) hx hb dX6_spread_40 (by decide) ?_
    refine lv_istore_n (lv' := [(3, .int 0), (0, .ref (ad 18)), (1, .ref (ad (182 + 6 * b1))), (2, .int x2)]) hx hb dX6_spread_41 rfl hl (by decide) rfl (fun ls hl => ?_)
    have hl := lv_sub hl [1, 2, 3, 0] (l' := [(0, .ref (ad 18)), (1, .ref (ad (182 + 6 * b1))), (2, .int x2), (3, .int 0)]) rfl
    refine lv_iconst (v := 0) hx hb dX6_spread_42 (by decide) ?_
    refine lv_istore (lv' := [(4, .int 0), (0, .ref (ad 18)), (1, .ref (ad (182 + 6 * b1))), (2, .int x2), (3, .int 0)]) hx hb dX6_spread_43 hl (by decide) rfl (fun ls hl => ?_)
    have hl := lv_sub hl [1, 2, 3, 4, 0] (l' := [(0, .ref (ad 18)), (1, .ref (ad (182 + 6 * b1))), (2, .int x2), (3, .int 0), (4, .int 0)]) rfl
    exact w45 FU σ13 x2 0 0 H locs ls h hP hD hS (lv_sub hl [0, 2, 3, 4] rfl)
  intro H locs ls h hP hD hS hl
  exact w0 σ a2 H locs ls h hP hD hS (lv_sub hl [0, 1, 2] rfl)

set_option maxHeartbeats 4000000 in
set_option maxRecDepth 100000 in
theorem tX6_handBack (l : Launch) (dC : Nat → ClassId) (dI : Nat → Nat → Nat) (cy : Nat → ClassId) (ad : Nat → Nat) (τ nb : Nat) (hτ : τ < nb) (σ : S2) (a1 : Int32) (sz : Nat) (r0 : Unit) (σ9 : S2) (h : fX6_handBack τ σ a1 = some (r0, σ9)) : Met l yX6_handBack wsX6_handBack ({ frames := 2, cells := 0, slots := 0, locals := 46 }) (va_Pc [.ref (ad 18), .int a1] (wPre (dC, dI) cy (wG (cC cy ad τ) ad (182 + 6 * nb) σ) sz)) (va_Qv (fun (_ : Unit) => True) (fun (_ : Unit) t => wAt (dC, dI) (va_A (wG (cC cy ad τ) ad (182 + 6 * nb) σ) sz) (wG (cC cy ad τ) ad (182 + 6 * nb) σ9) t) (va_A (wG (cC cy ad τ) ad (182 + 6 * nb) σ) sz)) 0 0 (va_A (wG (cC cy ad τ) ad (182 + 6 * nb) σ) sz) := by
  refine Met.ofW (cc := cX6_handBack) (maxL := 4) (ret := none) (by decide) rfl ?_
  intro p e s m args below meth c s₁ B hml hv
  obtain ⟨rfl, hsz, hP, hK, hD0, hN⟩ := hv
  have hx := B.exec
  have hb := B.bytes
  have hr := B.returns
  have hts := atoms_spec (ws := wsX6_handBack) B.pre
  have hown : s.vm.findClass RX6 = some m.cls := findClass_of_methodNamed B.named
  have hlocks := B.notSynchronized
  subst hsz
  have hD := hD0.self (sz := s.heap.size)
  generalize hAe : va_A (wG (cC cy ad τ) ad (182 + 6 * nb) σ) s.heap.size = A at hD ⊢
  have hA : ∀ q : Nat, s.heap.size ≤ q → A q := fun q h => by rw [← hAe]; exact Or.inr h
  have hS : va_S A s.heap s.heap [] := va_S.rf
  have hl := lv_entry ([.ref (ad 18), .int a1]) (n := 4) (Nat.le_of_ble_eq_true rfl)
  rw [lg_entry_eq]
  generalize (lg_sl ([.ref (ad 18), .int a1]) ++ List.replicate (4 - (lg_sl ([.ref (ad 18), .int a1])).length) Slot.unset).toArray = ls at hl ⊢
  have hl : lv_has ls 4 [(0, .ref (ad 18)), (1, .int a1)] := hl
  unfold fX6_handBack at h
  clear hAe hD0
  suffices HH : ∀ (H : Heap) (locs : List Loc) (ls : Array Slot), fX6_handBack_0 τ σ a1 = some (r0, σ9) → va_P (dC, dI) vwCl (wG (cC cy ad τ) ad (182 + 6 * nb) σ) H → va_D A (wG (cC cy ad τ) ad (182 + 6 * nb) σ) → va_S A s.heap H locs → lv_has ls 4 [(0, .ref (ad 18)), (1, .int a1)] → W p l e (headSpec wsX6_handBack ({ frames := 2, cells := 0, slots := 0, locals := 46 })).room s m (#[.ref (ad 18), .int a1]) below meth c H locs 0 0 (MQ below (va_Qv (fun (_ : Unit) => True) (fun (_ : Unit) t => wAt (dC, dI) A (wG (cC cy ad τ) ad (182 + 6 * nb) σ9) t) A) (#[.ref (ad 18), .int a1]) s 0 0 A) (F0 m 0 ls []) from HH s.heap [] ls h hP hD hS hl
  have w76 : ∀ (k15 : S2 → Int32 → Int32 → Int32 → Option (Unit × S2)) (hk15 : ∀ (σ : S2) (x1 : Int32) (x2 : Int32) (x3 : Int32) (H : Heap) (locs : List Loc) (ls : Array Slot), k15 σ x1 x2 x3 = some (r0, σ9) → va_P (dC, dI) vwCl (wG (cC cy ad τ) ad (182 + 6 * nb) σ) H → va_D A (wG (cC cy ad τ) ad (182 + 6 * nb) σ) → va_S A s.heap H locs → lv_has ls 4 [(0, .ref (ad 18)), (1, .int x1), (2, .int x2), (3, .int x3)] → W p l e (headSpec wsX6_handBack ({ frames := 2, cells := 0, slots := 0, locals := 46 })).room s m (#[.ref (ad 18), .int a1]) below meth c H locs 0 0 (MQ below (va_Qv (fun (_ : Unit) => True) (fun (_ : Unit) t => wAt (dC, dI) A (wG (cC cy ad τ) ad (182 + 6 * nb) σ9) t) A) (#[.ref (ad 18), .int a1]) s 0 0 A) (F0 m 15 ls [])) , ∀ (σ : S2) (x1 : Int32) (x2 : Int32) (x3 : Int32) (H : Heap) (locs : List Loc) (ls : Array Slot), fX6_handBack_76 τ k15 σ x1 x2 x3 = some (r0, σ9) → va_P (dC, dI) vwCl (wG (cC cy ad τ) ad (182 + 6 * nb) σ) H → va_D A (wG (cC cy ad τ) ad (182 + 6 * nb) σ) → va_S A s.heap H locs → lv_has ls 4 [(0, .ref (ad 18)), (1, .int x1), (2, .int x2), (3, .int x3)] → W p l e (headSpec wsX6_handBack ({ frames := 2, cells := 0, slots := 0, locals := 46 })).room s m (#[.ref (ad 18), .int a1]) below meth c H locs 0 0 (MQ below (va_Qv (fun (_ : Unit) => True) (fun (_ : Unit) t => wAt (dC, dI) A (wG (cC cy ad τ) ad (182 + 6 * nb) σ9) t) A) (#[.ref (ad 18), .int a1]) s 0 0 A) (F0 m 76 ls []) := by
    intro k15 hk15 σ x1 x2 x3 H locs ls h hP hD hS hl
    unfold fX6_handBack_76 at h
    obtain ⟨v1, ev1⟩ : ∃ y : Int32, y = x3 + 1 := ⟨_, rfl⟩
    have h := nmS h ev1
    refine lv_iinc (v := v1) (lv' := [(3, .int v1), (0, .ref (ad 18)), (1, .int x1), (2, .int x2)]) hx hb dX6_handBack_76 hl (k := 3) rfl (by rw [ev1]; rfl) (by decide) rfl (fun ls hl => ?_)
    have hl := lv_sub hl [1, 2, 3, 0] (l' := [(0, .ref (ad 18)), (1, .int x1), (2, .int x2), (3, .int v1)]) rfl
    refine lv_goto (tgt := 15) hx hb dX6_handBack_79 (by decide) ?_
    exact hk15 σ x1 x2 v1 H locs ls h hP hD hS hl
  have w15 : ∀ (k2 : S2 → Int32 → Int32 → Option (Unit × S2)) (hk2 : ∀ (σ : S2) (x1 : Int32) (x2 : Int32) (H : Heap) (locs : List Loc) (ls : Array Slot), k2 σ x1 x2 = some (r0, σ9) → va_P (dC, dI) vwCl (wG (cC cy ad τ) ad (182 + 6 * nb) σ) H → va_D A (wG (cC cy ad τ) ad (182 + 6 * nb) σ) → va_S A s.heap H locs → lv_has ls 4 [(0, .ref (ad 18)), (1, .int x1), (2, .int x2)] → W p l e (headSpec wsX6_handBack ({ frames := 2, cells := 0, slots := 0, locals := 46 })).room s m (#[.ref (ad 18), .int a1]) below meth c H locs 0 0 (MQ below (va_Qv (fun (_ : Unit) => True) (fun (_ : Unit) t => wAt (dC, dI) A (wG (cC cy ad τ) ad (182 + 6 * nb) σ9) t) A) (#[.ref (ad 18), .int a1]) s 0 0 A) (F0 m 2 ls [])) (n : Nat), ∀ (σ : S2) (x1 : Int32) (x2 : Int32) (x3 : Int32) (H : Heap) (locs : List Loc) (ls : Array Slot), fX6_handBack_15 τ k2 n σ x1 x2 x3 = some (r0, σ9) → va_P (dC, dI) vwCl (wG (cC cy ad τ) ad (182 + 6 * nb) σ) H → va_D A (wG (cC cy ad τ) ad (182 + 6 * nb) σ) → va_S A s.heap H locs → lv_has ls 4 [(0, .ref (ad 18)), (1, .int x1), (2, .int x2), (3, .int x3)] → W p l e (headSpec wsX6_handBack ({ frames := 2, cells := 0, slots := 0, locals := 46 })).room s m (#[.ref (ad 18), .int a1]) below meth c H locs 0 0 (MQ below (va_Qv (fun (_ : Unit) => True) (fun (_ : Unit) t => wAt (dC, dI) A (wG (cC cy ad τ) ad (182 + 6 * nb) σ9) t) A) (#[.ref (ad 18), .int a1]) s 0 0 A) (F0 m 15 ls []) := by
    intro k2 hk2 n
    induction n with
    | zero => intro σ x1 x2 x3 H locs ls h; cases h
    | succ n ih =>
    intro σ x1 x2 x3 H locs ls h hP hD hS hl
    unfold fX6_handBack_15 at h
    refine lv_iload_n hx hb dX6_handBack_15 rfl (lv_at hl 3 rfl) ?_
    refine lv_aload_n hx hb dX6_handBack_16 rfl (lv_at hl 0 rfl) ?_
    refine ux_get (D := (dC, dI)) (ci := 6) (v := .ref (ad 3)) (C := RX6) (T := TX6) (M := 12) (fs := (oPC ad (σ.1 18))) hx hb hts (fun _ h9 => List.mem_cons_of_mem _ (List.mem_append_left _ (List.mem_append_left _ (List.mem_append_right _ h9)))) hown hK hP 18 (Nat.lt_of_lt_of_le (Nat.le_of_ble_eq_true rfl : 18 < 182) (Nat.le_add_right _ _)) (cC_18 _ _ _ _ _) rfl 10 (by decide) (hts (.fieldLink RX6 46 "SeatsRound$Parcels" "nameList" "LSeatsRound$NameList;") (List.mem_of_getElem? (i := 3) rfl)) (fun _ h9 => h9) rfl dX6_handBack_17 ?_
    refine ux_get (D := (dC, dI)) (ci := 4) (v := .int (σ.1 3 3)) (C := RX4) (T := TX4) (M := 4) (fs := (oNL ad (σ.1 3))) hx hb hts (fun _ h9 => List.mem_cons_of_mem _ (List.mem_append_right _ h9)) hown hK hP 3 (Nat.lt_of_lt_of_le (Nat.le_of_ble_eq_true rfl : 3 < 182) (Nat.le_add_right _ _)) (cC_3 _ _ _ _ _) rfl 3 (by decide) (hts (.fieldLink RX6 123 "SeatsRound$NameList" "count" "I") (List.mem_of_getElem? (i := 4) rfl)) (fun _ h9 => h9) rfl dX6_handBack_20 ?_
    refine lv_icmp_ge (tgt := 82) hx hb dX6_handBack_23 (by decide) (fun hcd => ?_) (fun hcd => ?_)
    · have h := cdP hcd h
      obtain ⟨v2, ev2⟩ : ∃ y : Int32, y = x2 + 1 := ⟨_, rfl⟩
      have h := nmS h ev2
      refine lv_iinc (v := v2) (lv' := [(2, .int v2), (0, .ref (ad 18)), (1, .int x1), (3, .int x3)]) hx hb dX6_handBack_82 hl (k := 2) rfl (by rw [ev2]; rfl) (by decide) rfl (fun ls hl => ?_)
      have hl := lv_sub hl [1, 2, 0, 3] (l' := [(0, .ref (ad 18)), (1, .int x1), (2, .int v2), (3, .int x3)]) rfl
      refine lv_goto (tgt := 2) hx hb dX6_handBack_85 (by decide) ?_
      exact hk2 σ x1 v2 H locs ls h hP hD hS (lv_sub hl [0, 1, 2] rfl)
    · have h := cdN hcd h
      refine lv_aload_n hx hb dX6_handBack_26 rfl (lv_at hl 0 rfl) ?_
      refine ux_get (D := (dC, dI)) (ci := 6) (v := .ref (ad 20)) (C := RX6) (T := TX6) (M := 12) (fs := (oPC ad (σ.1 18))) hx hb hts (fun _ h9 => List.mem_cons_of_mem _ (List.mem_append_left _ (List.mem_append_left _ (List.mem_append_right _ h9)))) hown hK hP 18 (Nat.lt_of_lt_of_le (Nat.le_of_ble_eq_true rfl : 18 < 182) (Nat.le_add_right _ _)) (cC_18 _ _ _ _ _) rfl 1 (by decide) (hts (.fieldLink RX6 16 "SeatsRound$Parcels" "kept" "[[I") (List.mem_of_getElem? (i := 5) rfl)) (fun _ h9 => h9) rfl dX6_handBack_27 ?_
      refine lv_iload_n hx hb dX6_handBack_30 rfl (lv_at hl 2 rfl) ?_
      obtain ⟨hii3, h⟩ := ckS h
      have hri3 := vp_lt hii3
      refine vz_aldg hx hb hK hP 20 6 (wG_of (Nat.lt_of_lt_of_le (Nat.le_of_ble_eq_true rfl : 20 < 182) (Nat.le_add_right _ _)) (cC_20 _ _ _ _ _)) rfl hii3 (if_pos hri3) dX6_handBack_31 ?_
      refine lv_iload_n hx hb dX6_handBack_32 rfl (lv_at hl 3 rfl) ?_
      refine ux_iald hx hb hK hP (96 + Int32.toNatClampNeg x2) 0 (by omega) (cC_r2 _ _ _ _ _ _ (by omega)) rfl h dX6_handBack_33 (fun v4 h => ?_)
      refine lv_if_eq (tgt := 76) hx hb dX6_handBack_34 (by decide) (fun hcd => ?_) (fun hcd => ?_)
      · have h := cdP hcd h
        exact w76 _ ih σ x1 x2 x3 H locs ls h hP hD hS hl
      · have h := cdN hcd h
        refine lv_aload_n hx hb dX6_handBack_37 rfl (lv_at hl 0 rfl) ?_
        refine ux_get (D := (dC, dI)) (ci := 6) (v := .ref (ad 21)) (C := RX6) (T := TX6) (M := 12) (fs := (oPC ad (σ.1 18))) hx hb hts (fun _ h9 => List.mem_cons_of_mem _ (List.mem_append_left _ (List.mem_append_left _ (List.mem_append_right _ h9)))) hown hK hP 18 (Nat.lt_of_lt_of_le (Nat.le_of_ble_eq_true rfl : 18 < 182) (Nat.le_add_right _ _)) (cC_18 _ _ _ _ _) rfl 2 (by decide) (hts (.fieldLink RX6 19 "SeatsRound$Parcels" "keptFor" "[[I") (List.mem_of_getElem? (i := 6) rfl)) (fun _ h9 => h9) rfl dX6_handBack_38 ?_
        refine lv_iload_n hx hb dX6_handBack_41 rfl (lv_at hl 2 rfl) ?_
        obtain ⟨hii5, h⟩ := ckS h
        have hri5 := vp_lt hii5
        refine vz_aldg hx hb hK hP 21 6 (wG_of (Nat.lt_of_lt_of_le (Nat.le_of_ble_eq_true rfl : 21 < 182) (Nat.le_add_right _ _)) (cC_21 _ _ _ _ _)) rfl hii5 (if_pos hri5) dX6_handBack_42 ?_
        refine lv_iload_n hx hb dX6_handBack_43 rfl (lv_at hl 3 rfl) ?_
        refine ux_iald hx hb hK hP (108 + Int32.toNatClampNeg x2) 0 (by omega) (cC_r3 _ _ _ _ _ _ (by omega)) rfl h dX6_handBack_44 (fun v6 h => ?_)
        refine lv_iload_n hx hb dX6_handBack_45 rfl (lv_at hl 1 rfl) ?_
        refine lv_icmp_eq (tgt := 52) hx hb dX6_handBack_46 (by decide) (fun hcd => ?_) (fun hcd => ?_)
        · have h := cdP hcd h
          refine lv_aload_n hx hb dX6_handBack_52 rfl (lv_at hl 0 rfl) ?_
          refine lv_iload_n hx hb dX6_handBack_53 rfl (lv_at hl 1 rfl) ?_
          refine lv_iload_n hx hb dX6_handBack_54 rfl (lv_at hl 3 rfl) ?_
          refine lv_aload_n hx hb dX6_handBack_55 rfl (lv_at hl 0 rfl) ?_
          refine ux_get (D := (dC, dI)) (ci := 6) (v := .ref (ad 20)) (C := RX6) (T := TX6) (M := 12) (fs := (oPC ad (σ.1 18))) hx hb hts (fun _ h9 => List.mem_cons_of_mem _ (List.mem_append_left _ (List.mem_append_left _ (List.mem_append_right _ h9)))) hown hK hP 18 (Nat.lt_of_lt_of_le (Nat.le_of_ble_eq_true rfl : 18 < 182) (Nat.le_add_right _ _)) (cC_18 _ _ _ _ _) rfl 1 (by decide) (hts (.fieldLink RX6 16 "SeatsRound$Parcels" "kept" "[[I") (List.mem_of_getElem? (i := 5) rfl)) (fun _ h9 => h9) rfl dX6_handBack_56 ?_
          refine lv_iload_n hx hb dX6_handBack_59 rfl (lv_at hl 2 rfl) ?_
          obtain ⟨hii7, h⟩ := ckS h
          have hri7 := vp_lt hii7
          refine vz_aldg hx hb hK hP 20 6 (wG_of (Nat.lt_of_lt_of_le (Nat.le_of_ble_eq_true rfl : 20 < 182) (Nat.le_add_right _ _)) (cC_20 _ _ _ _ _)) rfl hii7 (if_pos hri7) dX6_handBack_60 ?_
          refine lv_iload_n hx hb dX6_handBack_61 rfl (lv_at hl 3 rfl) ?_
          refine ux_iald hx hb hK hP (96 + Int32.toNatClampNeg x2) 0 (by omega) (cC_r2 _ _ _ _ _ _ (by omega)) rfl h dX6_handBack_62 (fun v8 h => ?_)
          obtain ⟨r9, σ10, hf11, h⟩ := bsS h
          refine ux_calli (va_runV (As := [.int x1, .int x3, .int v8]) (rest := []) ⟨hx, hb, hml, hown, hts⟩ (tX6_takesGreater l dC dI cy ad τ nb hτ σ x1 x3 v8 H.size r9 σ10 hf11) (cwV 3 hts gX6_handBack_X6_takesGreater rfl rfl rfl (by decide +kernel) ⟨Nat.le_of_ble_eq_true rfl, Nat.le_of_ble_eq_true rfl⟩) (wp_V hK hN hP hD (va_recv hK hP (ci := 6) (q0 := 18) rfl (wG_of (Nat.lt_of_lt_of_le (Nat.le_of_ble_eq_true rfl : 18 < 182) (Nat.le_add_right _ _)) (cC_18 _ _ _ _ _)))) rfl rfl hl.1 rfl (lv_room (Nat.le_of_ble_eq_true rfl)) dX6_handBack_63 ⟨Nat.le_of_ble_eq_true rfl, Nat.le_of_ble_eq_true rfl⟩) hD hS hA (fun H locs hP hD hS => ?_)
          refine lv_pop hx hb dX6_handBack_66 rfl ?_
          refine lv_aload_n hx hb dX6_handBack_67 rfl (lv_at hl 0 rfl) ?_
          refine ux_get (D := (dC, dI)) (ci := 6) (v := .ref (ad 20)) (C := RX6) (T := TX6) (M := 12) (fs := (oPC ad (σ10.1 18))) hx hb hts (fun _ h9 => List.mem_cons_of_mem _ (List.mem_append_left _ (List.mem_append_left _ (List.mem_append_right _ h9)))) hown hK hP 18 (Nat.lt_of_lt_of_le (Nat.le_of_ble_eq_true rfl : 18 < 182) (Nat.le_add_right _ _)) (cC_18 _ _ _ _ _) rfl 1 (by decide) (hts (.fieldLink RX6 16 "SeatsRound$Parcels" "kept" "[[I") (List.mem_of_getElem? (i := 5) rfl)) (fun _ h9 => h9) rfl dX6_handBack_68 ?_
          refine lv_iload_n hx hb dX6_handBack_71 rfl (lv_at hl 2 rfl) ?_
          obtain ⟨hii12, h⟩ := ckS h
          have hri12 := vp_lt hii12
          refine vz_aldg hx hb hK hP 20 6 (wG_of (Nat.lt_of_lt_of_le (Nat.le_of_ble_eq_true rfl : 20 < 182) (Nat.le_add_right _ _)) (cC_20 _ _ _ _ _)) rfl hii12 (if_pos hri12) dX6_handBack_72 ?_
          refine lv_iload_n hx hb dX6_handBack_73 rfl (lv_at hl 3 rfl) ?_
          refine lv_iconst (v := 0) hx hb dX6_handBack_74 (by decide) ?_
          refine ux_iast hx hb hK hP hD hS (96 + Int32.toNatClampNeg x2) 0 (by omega) (fun _ => (cC_r2 _ _ _ _ _ _ (by omega))) rfl h dX6_handBack_75 (fun σ13 H locs h hP hD hS => ?_)
          exact w76 _ ih σ13 x1 x2 x3 H locs ls h hP hD hS hl
        · have h := cdN hcd h
          refine lv_goto (tgt := 76) hx hb dX6_handBack_49 (by decide) ?_
          exact w76 _ ih σ x1 x2 x3 H locs ls h hP hD hS hl
  have w2 : ∀ (n : Nat), ∀ (σ : S2) (x1 : Int32) (x2 : Int32) (H : Heap) (locs : List Loc) (ls : Array Slot), fX6_handBack_2 τ n σ x1 x2 = some (r0, σ9) → va_P (dC, dI) vwCl (wG (cC cy ad τ) ad (182 + 6 * nb) σ) H → va_D A (wG (cC cy ad τ) ad (182 + 6 * nb) σ) → va_S A s.heap H locs → lv_has ls 4 [(0, .ref (ad 18)), (1, .int x1), (2, .int x2)] → W p l e (headSpec wsX6_handBack ({ frames := 2, cells := 0, slots := 0, locals := 46 })).room s m (#[.ref (ad 18), .int a1]) below meth c H locs 0 0 (MQ below (va_Qv (fun (_ : Unit) => True) (fun (_ : Unit) t => wAt (dC, dI) A (wG (cC cy ad τ) ad (182 + 6 * nb) σ9) t) A) (#[.ref (ad 18), .int a1]) s 0 0 A) (F0 m 2 ls []) := by
    intro n
    induction n with
    | zero => intro σ x1 x2 H locs ls h; cases h
    | succ n ih =>
    intro σ x1 x2 H locs ls h hP hD hS hl
    unfold fX6_handBack_2 at h
    refine lv_iload_n hx hb dX6_handBack_2 rfl (lv_at hl 2 rfl) ?_
    refine lv_aload_n hx hb dX6_handBack_3 rfl (lv_at hl 0 rfl) ?_
    refine ux_get (D := (dC, dI)) (ci := 6) (v := .ref (ad 7)) (C := RX6) (T := TX6) (M := 12) (fs := (oPC ad (σ.1 18))) hx hb hts (fun _ h9 => List.mem_cons_of_mem _ (List.mem_append_left _ (List.mem_append_left _ (List.mem_append_right _ h9)))) hown hK hP 18 (Nat.lt_of_lt_of_le (Nat.le_of_ble_eq_true rfl : 18 < 182) (Nat.le_add_right _ _)) (cC_18 _ _ _ _ _) rfl 9 (by decide) (hts (.fieldLink RX6 42 "SeatsRound$Parcels" "keepers" "LSeatsRound$Keepers;") (List.mem_of_getElem? (i := 1) rfl)) (fun _ h9 => h9) rfl dX6_handBack_4 ?_
    refine ux_get (D := (dC, dI)) (ci := 2) (v := .int (σ.1 7 5)) (C := RX2) (T := TX2) (M := 6) (fs := (oKP ad (σ.1 7))) hx hb hts (fun _ h9 => List.mem_cons_of_mem _ (List.mem_append_left _ (List.mem_append_right _ h9))) hown hK hP 7 (Nat.lt_of_lt_of_le (Nat.le_of_ble_eq_true rfl : 7 < 182) (Nat.le_add_right _ _)) (cC_7 _ _ _ _ _) rfl 5 (by decide) (hts (.fieldLink RX6 120 "SeatsRound$Keepers" "count" "I") (List.mem_of_getElem? (i := 2) rfl)) (fun _ h9 => h9) rfl dX6_handBack_7 ?_
    refine lv_icmp_ge (tgt := 88) hx hb dX6_handBack_10 (by decide) (fun hcd => ?_) (fun hcd => ?_)
    · have h := cdP hcd h
      exact ux_vret hx hb hr h hP hD hS hlocks dX6_handBack_88
    · have h := cdN hcd h
      refine lv_iconst (v := 0) hx hb dX6_handBack_13 (by decide) ?_
      refine lv_istore_n (lv' := [(3, .int 0), (0, .ref (ad 18)), (1, .int x1), (2, .int x2)]) hx hb dX6_handBack_14 rfl hl (by decide) rfl (fun ls hl => ?_)
      have hl := lv_sub hl [1, 2, 3, 0] (l' := [(0, .ref (ad 18)), (1, .int x1), (2, .int x2), (3, .int 0)]) rfl
      exact w15 _ ih FU σ x1 x2 0 H locs ls h hP hD hS hl
  have w0 : ∀ (σ : S2) (x1 : Int32) (H : Heap) (locs : List Loc) (ls : Array Slot), fX6_handBack_0 τ σ x1 = some (r0, σ9) → va_P (dC, dI) vwCl (wG (cC cy ad τ) ad (182 + 6 * nb) σ) H → va_D A (wG (cC cy ad τ) ad (182 + 6 * nb) σ) → va_S A s.heap H locs → lv_has ls 4 [(0, .ref (ad 18)), (1, .int x1)] → W p l e (headSpec wsX6_handBack ({ frames := 2, cells := 0, slots := 0, locals := 46 })).room s m (#[.ref (ad 18), .int a1]) below meth c H locs 0 0 (MQ below (va_Qv (fun (_ : Unit) => True) (fun (_ : Unit) t => wAt (dC, dI) A (wG (cC cy ad τ) ad (182 + 6 * nb) σ9) t) A) (#[.ref (ad 18), .int a1]) s 0 0 A) (F0 m 0 ls []) := by
    intro σ x1 H locs ls h hP hD hS hl
    unfold fX6_handBack_0 at h
    refine lv_iconst (v := 0) hx hb dX6_handBack_0 (by decide) ?_
    refine lv_istore_n (lv' := [(2, .int 0), (0, .ref (ad 18)), (1, .int x1)]) hx hb dX6_handBack_1 rfl hl (by decide) rfl (fun ls hl => ?_)
    have hl := lv_sub hl [1, 2, 0] (l' := [(0, .ref (ad 18)), (1, .int x1), (2, .int 0)]) rfl
    exact w2 FU σ x1 0 H locs ls h hP hD hS hl
  intro H locs ls h hP hD hS hl
  exact w0 σ a1 H locs ls h hP hD hS (lv_sub hl [0, 1] rfl)

set_option maxHeartbeats 4000000 in
set_option maxRecDepth 100000 in
theorem tJ7_fill_53178 (l : Launch) (dC : Nat → ClassId) (dI : Nat → Nat → Nat) (cy : Nat → ClassId) (ad : Nat → Nat) (τ nb : Nat) (hτ : τ < nb) (c0 n0 : Nat) (hc0 : c0 < 182 + 6 * nb) (hs0 : ∀ (g : Nat → Int32) (q : Nat → Int64), cC cy ad τ c0 g q = .inl (cy 0, n0, .inl g)) (σ : S2) (a1 : Int32) (sz : Nat) (r0 : Unit) (σ9 : S2) (h : fJ7_fill_53178 τ c0 n0 σ a1 = some (r0, σ9)) : Met l yJ7_fill_53178 wsJ7_fill_53178 ({ frames := 1, cells := 0, slots := 0, locals := 23 }) (va_Pc [.ref (ad c0), .int a1] (wPre (dC, dI) cy (wG (cC cy ad τ) ad (182 + 6 * nb) σ) sz)) (va_Qv (fun (_ : Unit) => True) (fun (_ : Unit) t => wAt (dC, dI) (va_A (wG (cC cy ad τ) ad (182 + 6 * nb) σ) sz) (wG (cC cy ad τ) ad (182 + 6 * nb) σ9) t) (va_A (wG (cC cy ad τ) ad (182 + 6 * nb) σ) sz)) 0 0 (va_A (wG (cC cy ad τ) ad (182 + 6 * nb) σ) sz) := by
  refine Met.ofW (cc := cJ7_fill_53178) (maxL := 4) (ret := none) (by decide) rfl ?_
  intro p e s m args below meth c s₁ B hml hv
  obtain ⟨rfl, hsz, hP, hK, hD0, hN⟩ := hv
  have hx := B.exec
  have hb := B.bytes
  have hr := B.returns
  have hts := atoms_spec (ws := wsJ7_fill_53178) B.pre
  have hown : s.vm.findClass RJ7 = some m.cls := findClass_of_methodNamed B.named
  have hlocks := B.notSynchronized
  subst hsz
  have hD := hD0.self (sz := s.heap.size)
  generalize hAe : va_A (wG (cC cy ad τ) ad (182 + 6 * nb) σ) s.heap.size = A at hD ⊢
  have hA : ∀ q : Nat, s.heap.size ≤ q → A q := fun q h => by rw [← hAe]; exact Or.inr h
  have hS : va_S A s.heap s.heap [] := va_S.rf
  have hl := lv_entry ([.ref (ad c0), .int a1]) (n := 4) (Nat.le_of_ble_eq_true rfl)
  rw [lg_entry_eq]
  generalize (lg_sl ([.ref (ad c0), .int a1]) ++ List.replicate (4 - (lg_sl ([.ref (ad c0), .int a1])).length) Slot.unset).toArray = ls at hl ⊢
  have hl : lv_has ls 4 [(0, .ref (ad c0)), (1, .int a1)] := hl
  unfold fJ7_fill_53178 at h
  clear hAe hD0
  suffices HH : ∀ (H : Heap) (locs : List Loc) (ls : Array Slot), fJ7_fill_53178_0 τ c0 n0 σ a1 = some (r0, σ9) → va_P (dC, dI) vwCl (wG (cC cy ad τ) ad (182 + 6 * nb) σ) H → va_D A (wG (cC cy ad τ) ad (182 + 6 * nb) σ) → va_S A s.heap H locs → lv_has ls 4 [(0, .ref (ad c0)), (1, .int a1)] → W p l e (headSpec wsJ7_fill_53178 ({ frames := 1, cells := 0, slots := 0, locals := 23 })).room s m (#[.ref (ad c0), .int a1]) below meth c H locs 0 0 (MQ below (va_Qv (fun (_ : Unit) => True) (fun (_ : Unit) t => wAt (dC, dI) A (wG (cC cy ad τ) ad (182 + 6 * nb) σ9) t) A) (#[.ref (ad c0), .int a1]) s 0 0 A) (F0 m 0 ls []) from HH s.heap [] ls h hP hD hS hl
  have w5 : ∀ (n : Nat), ∀ (σ : S2) (x1 : Int32) (x2 : Int32) (x3 : Int32) (H : Heap) (locs : List Loc) (ls : Array Slot), fJ7_fill_53178_5 τ c0 n0 n σ x1 x2 x3 = some (r0, σ9) → va_P (dC, dI) vwCl (wG (cC cy ad τ) ad (182 + 6 * nb) σ) H → va_D A (wG (cC cy ad τ) ad (182 + 6 * nb) σ) → va_S A s.heap H locs → lv_has ls 4 [(0, .ref (ad c0)), (1, .int x1), (2, .int x2), (3, .int x3)] → W p l e (headSpec wsJ7_fill_53178 ({ frames := 1, cells := 0, slots := 0, locals := 23 })).room s m (#[.ref (ad c0), .int a1]) below meth c H locs 0 0 (MQ below (va_Qv (fun (_ : Unit) => True) (fun (_ : Unit) t => wAt (dC, dI) A (wG (cC cy ad τ) ad (182 + 6 * nb) σ9) t) A) (#[.ref (ad c0), .int a1]) s 0 0 A) (F0 m 5 ls []) := by
    intro n
    induction n with
    | zero => intro σ x1 x2 x3 H locs ls h; cases h
    | succ n ih =>
    intro σ x1 x2 x3 H locs ls h hP hD hS hl
    unfold fJ7_fill_53178_5 at h
    refine lv_iload_n hx hb dJ7_fill_53178_5 rfl (lv_at hl 2 rfl) ?_
    refine lv_iload_n hx hb dJ7_fill_53178_6 rfl (lv_at hl 3 rfl) ?_
    refine lv_icmp_ge (tgt := 20) hx hb dJ7_fill_53178_7 (by decide) (fun hcd => ?_) (fun hcd => ?_)
    · have h := cdP hcd h
      exact ux_vret hx hb hr h hP hD hS hlocks dJ7_fill_53178_20
    · have h := cdN hcd h
      refine lv_aload_n hx hb dJ7_fill_53178_10 rfl (lv_at hl 0 rfl) ?_
      refine lv_iload_n hx hb dJ7_fill_53178_11 rfl (lv_at hl 2 rfl) ?_
      refine lv_iload_n hx hb dJ7_fill_53178_12 rfl (lv_at hl 1 rfl) ?_
      refine ux_iast hx hb hK hP hD hS c0 0 hc0 (fun _ => (hs0 _ _)) rfl h dJ7_fill_53178_13 (fun σ1 H locs h hP hD hS => ?_)
      obtain ⟨v2, ev2⟩ : ∃ y : Int32, y = x2 + 1 := ⟨_, rfl⟩
      have h := nmS h ev2
      refine lv_iinc (v := v2) (lv' := [(2, .int v2), (0, .ref (ad c0)), (1, .int x1), (3, .int x3)]) hx hb dJ7_fill_53178_14 hl (k := 2) rfl (by rw [ev2]; rfl) (by decide) rfl (fun ls hl => ?_)
      have hl := lv_sub hl [1, 2, 0, 3] (l' := [(0, .ref (ad c0)), (1, .int x1), (2, .int v2), (3, .int x3)]) rfl
      refine lv_goto (tgt := 5) hx hb dJ7_fill_53178_17 (by decide) ?_
      exact ih σ1 x1 v2 x3 H locs ls h hP hD hS hl
  have w0 : ∀ (σ : S2) (x1 : Int32) (H : Heap) (locs : List Loc) (ls : Array Slot), fJ7_fill_53178_0 τ c0 n0 σ x1 = some (r0, σ9) → va_P (dC, dI) vwCl (wG (cC cy ad τ) ad (182 + 6 * nb) σ) H → va_D A (wG (cC cy ad τ) ad (182 + 6 * nb) σ) → va_S A s.heap H locs → lv_has ls 4 [(0, .ref (ad c0)), (1, .int x1)] → W p l e (headSpec wsJ7_fill_53178 ({ frames := 1, cells := 0, slots := 0, locals := 23 })).room s m (#[.ref (ad c0), .int a1]) below meth c H locs 0 0 (MQ below (va_Qv (fun (_ : Unit) => True) (fun (_ : Unit) t => wAt (dC, dI) A (wG (cC cy ad τ) ad (182 + 6 * nb) σ9) t) A) (#[.ref (ad c0), .int a1]) s 0 0 A) (F0 m 0 ls []) := by
    intro σ x1 H locs ls h hP hD hS hl
    unfold fJ7_fill_53178_0 at h
    refine lv_iconst (v := 0) hx hb dJ7_fill_53178_0 (by decide) ?_
    refine lv_istore_n (lv' := [(2, .int 0), (0, .ref (ad c0)), (1, .int x1)]) hx hb dJ7_fill_53178_1 rfl hl (by decide) rfl (fun ls hl => ?_)
    have hl := lv_sub hl [1, 2, 0] (l' := [(0, .ref (ad c0)), (1, .int x1), (2, .int 0)]) rfl
    refine lv_aload_n hx hb dJ7_fill_53178_2 rfl (lv_at hl 0 rfl) ?_
    refine ux_alen (v := Int32.ofNat n0) hx hb hK hP c0 0 hc0 (hs0 _ _) rfl rfl dJ7_fill_53178_3 ?_
    refine lv_topi (fun v3 ev3 => ?_)
    have h := nmS h ev3
    refine lv_istore_n (lv' := [(3, .int v3), (0, .ref (ad c0)), (1, .int x1), (2, .int 0)]) hx hb dJ7_fill_53178_4 rfl hl (by decide) rfl (fun ls hl => ?_)
    have hl := lv_sub hl [1, 2, 3, 0] (l' := [(0, .ref (ad c0)), (1, .int x1), (2, .int 0), (3, .int v3)]) rfl
    exact w5 FU σ x1 0 v3 H locs ls h hP hD hS hl
  intro H locs ls h hP hD hS hl
  exact w0 σ a1 H locs ls h hP hD hS (lv_sub hl [0, 1] rfl)

set_option maxHeartbeats 4000000 in
set_option maxRecDepth 100000 in
theorem tX6_empty (l : Launch) (dC : Nat → ClassId) (dI : Nat → Nat → Nat) (cy : Nat → ClassId) (ad : Nat → Nat) (τ nb : Nat) (hτ : τ < nb) (σ : S2) (a1 : Int32) (sz : Nat) (r0 : Unit) (σ9 : S2) (h : fX6_empty τ σ a1 = some (r0, σ9)) : Met l yX6_empty wsX6_empty ({ frames := 2, cells := 0, slots := 0, locals := 46 }) (va_Pc [.ref (ad 18), .int a1] (wPre (dC, dI) cy (wG (cC cy ad τ) ad (182 + 6 * nb) σ) sz)) (va_Qv (fun (_ : Unit) => True) (fun (_ : Unit) t => wAt (dC, dI) (va_A (wG (cC cy ad τ) ad (182 + 6 * nb) σ) sz) (wG (cC cy ad τ) ad (182 + 6 * nb) σ9) t) (va_A (wG (cC cy ad τ) ad (182 + 6 * nb) σ) sz)) 0 0 (va_A (wG (cC cy ad τ) ad (182 + 6 * nb) σ) sz) := by
  refine Met.ofW (cc := cX6_empty) (maxL := 2) (ret := none) (by decide) rfl ?_
  intro p e s m args below meth c s₁ B hml hv
  obtain ⟨rfl, hsz, hP, hK, hD0, hN⟩ := hv
  have hx := B.exec
  have hb := B.bytes
  have hr := B.returns
  have hts := atoms_spec (ws := wsX6_empty) B.pre
  have hown : s.vm.findClass RX6 = some m.cls := findClass_of_methodNamed B.named
  have hlocks := B.notSynchronized
  subst hsz
  have hD := hD0.self (sz := s.heap.size)
  generalize hAe : va_A (wG (cC cy ad τ) ad (182 + 6 * nb) σ) s.heap.size = A at hD ⊢
  have hA : ∀ q : Nat, s.heap.size ≤ q → A q := fun q h => by rw [← hAe]; exact Or.inr h
  have hS : va_S A s.heap s.heap [] := va_S.rf
  have hl := lv_entry ([.ref (ad 18), .int a1]) (n := 2) (Nat.le_of_ble_eq_true rfl)
  rw [lg_entry_eq]
  generalize (lg_sl ([.ref (ad 18), .int a1]) ++ List.replicate (2 - (lg_sl ([.ref (ad 18), .int a1])).length) Slot.unset).toArray = ls at hl ⊢
  have hl : lv_has ls 2 [(0, .ref (ad 18)), (1, .int a1)] := hl
  unfold fX6_empty at h
  clear hAe hD0
  suffices HH : ∀ (H : Heap) (locs : List Loc) (ls : Array Slot), fX6_empty_0 τ σ a1 = some (r0, σ9) → va_P (dC, dI) vwCl (wG (cC cy ad τ) ad (182 + 6 * nb) σ) H → va_D A (wG (cC cy ad τ) ad (182 + 6 * nb) σ) → va_S A s.heap H locs → lv_has ls 2 [(0, .ref (ad 18)), (1, .int a1)] → W p l e (headSpec wsX6_empty ({ frames := 2, cells := 0, slots := 0, locals := 46 })).room s m (#[.ref (ad 18), .int a1]) below meth c H locs 0 0 (MQ below (va_Qv (fun (_ : Unit) => True) (fun (_ : Unit) t => wAt (dC, dI) A (wG (cC cy ad τ) ad (182 + 6 * nb) σ9) t) A) (#[.ref (ad 18), .int a1]) s 0 0 A) (F0 m 0 ls []) from HH s.heap [] ls h hP hD hS hl
  have w0 : ∀ (σ : S2) (x1 : Int32) (H : Heap) (locs : List Loc) (ls : Array Slot), fX6_empty_0 τ σ x1 = some (r0, σ9) → va_P (dC, dI) vwCl (wG (cC cy ad τ) ad (182 + 6 * nb) σ) H → va_D A (wG (cC cy ad τ) ad (182 + 6 * nb) σ) → va_S A s.heap H locs → lv_has ls 2 [(0, .ref (ad 18)), (1, .int x1)] → W p l e (headSpec wsX6_empty ({ frames := 2, cells := 0, slots := 0, locals := 46 })).room s m (#[.ref (ad 18), .int a1]) below meth c H locs 0 0 (MQ below (va_Qv (fun (_ : Unit) => True) (fun (_ : Unit) t => wAt (dC, dI) A (wG (cC cy ad τ) ad (182 + 6 * nb) σ9) t) A) (#[.ref (ad 18), .int a1]) s 0 0 A) (F0 m 0 ls []) := by
    intro σ x1 H locs ls h hP hD hS hl
    unfold fX6_empty_0 at h
    refine lv_aload_n hx hb dX6_empty_0 rfl (lv_at hl 0 rfl) ?_
    refine ux_get (D := (dC, dI)) (ci := 6) (v := .ref (ad 19)) (C := RX6) (T := TX6) (M := 12) (fs := (oPC ad (σ.1 18))) hx hb hts (fun _ h9 => List.mem_cons_of_mem _ (List.mem_append_right _ h9)) hown hK hP 18 (Nat.lt_of_lt_of_le (Nat.le_of_ble_eq_true rfl : 18 < 182) (Nat.le_add_right _ _)) (cC_18 _ _ _ _ _) rfl 0 (by decide) (hts (.fieldLink RX6 11 "SeatsRound$Parcels" "version" "[[I") (List.mem_of_getElem? (i := 1) rfl)) (fun _ h9 => h9) rfl dX6_empty_1 ?_
    refine lv_iload_n hx hb dX6_empty_4 rfl (lv_at hl 1 rfl) ?_
    obtain ⟨hii1, h⟩ := ckS h
    have hri1 := vp_lt hii1
    refine vz_aldg hx hb hK hP 19 6 (wG_of (Nat.lt_of_lt_of_le (Nat.le_of_ble_eq_true rfl : 19 < 182) (Nat.le_add_right _ _)) (cC_19 _ _ _ _ _)) rfl hii1 (if_pos hri1) dX6_empty_5 ?_
    refine lv_iconst (v := 0) hx hb dX6_empty_6 (by decide) ?_
    obtain ⟨r2, σ3, hf4, h⟩ := bsS h
    refine ux_callv (va_runS (As := [.ref (ad (84 + Int32.toNatClampNeg x1)), .int 0]) (rest := []) ⟨hx, hb, hml, hown, hts⟩ (tJ7_fill_53178 l dC dI cy ad τ nb hτ (84 + Int32.toNatClampNeg x1) 40 (by omega) (fun _ _ => (cC_r1 _ _ _ _ _ _ (by omega))) σ 0 H.size r2 σ3 hf4) (va_cwS 2 hts gX6_empty_J7_fill_53178 rfl rfl rfl (by decide +kernel) ⟨Nat.le_of_ble_eq_true rfl, Nat.le_of_ble_eq_true rfl⟩) (wp_S hK hN hP hD) rfl rfl hl.1 rfl (lv_room (Nat.le_of_ble_eq_true rfl)) dX6_empty_7 ⟨Nat.le_of_ble_eq_true rfl, Nat.le_of_ble_eq_true rfl⟩) hD hS hA (fun H locs hP hD hS => ?_)
    refine lv_aload_n hx hb dX6_empty_10 rfl (lv_at hl 0 rfl) ?_
    refine ux_get (D := (dC, dI)) (ci := 6) (v := .ref (ad 20)) (C := RX6) (T := TX6) (M := 12) (fs := (oPC ad (σ3.1 18))) hx hb hts (fun _ h9 => List.mem_cons_of_mem _ (List.mem_append_right _ h9)) hown hK hP 18 (Nat.lt_of_lt_of_le (Nat.le_of_ble_eq_true rfl : 18 < 182) (Nat.le_add_right _ _)) (cC_18 _ _ _ _ _) rfl 1 (by decide) (hts (.fieldLink RX6 16 "SeatsRound$Parcels" "kept" "[[I") (List.mem_of_getElem? (i := 2) rfl)) (fun _ h9 => h9) rfl dX6_empty_11 ?_
    refine lv_iload_n hx hb dX6_empty_14 rfl (lv_at hl 1 rfl) ?_
    obtain ⟨hii5, h⟩ := ckS h
    have hri5 := vp_lt hii5
    refine vz_aldg hx hb hK hP 20 6 (wG_of (Nat.lt_of_lt_of_le (Nat.le_of_ble_eq_true rfl : 20 < 182) (Nat.le_add_right _ _)) (cC_20 _ _ _ _ _)) rfl hii5 (if_pos hri5) dX6_empty_15 ?_
    refine lv_iconst (v := 0) hx hb dX6_empty_16 (by decide) ?_
    obtain ⟨r6, σ7, hf8, h⟩ := bsS h
    refine ux_callv (va_runS (As := [.ref (ad (96 + Int32.toNatClampNeg x1)), .int 0]) (rest := []) ⟨hx, hb, hml, hown, hts⟩ (tJ7_fill_53178 l dC dI cy ad τ nb hτ (96 + Int32.toNatClampNeg x1) 40 (by omega) (fun _ _ => (cC_r2 _ _ _ _ _ _ (by omega))) σ3 0 H.size r6 σ7 hf8) (va_cwS 2 hts gX6_empty_J7_fill_53178 rfl rfl rfl (by decide +kernel) ⟨Nat.le_of_ble_eq_true rfl, Nat.le_of_ble_eq_true rfl⟩) (wp_S hK hN hP hD) rfl rfl hl.1 rfl (lv_room (Nat.le_of_ble_eq_true rfl)) dX6_empty_17 ⟨Nat.le_of_ble_eq_true rfl, Nat.le_of_ble_eq_true rfl⟩) hD hS hA (fun H locs hP hD hS => ?_)
    exact ux_vret hx hb hr h hP hD hS hlocks dX6_empty_20
  intro H locs ls h hP hD hS hl
  exact w0 σ a1 H locs ls h hP hD hS (lv_sub hl [0, 1] rfl)

set_option maxHeartbeats 4000000 in
set_option maxRecDepth 100000 in
theorem tX6_greatestFor (l : Launch) (dC : Nat → ClassId) (dI : Nat → Nat → Nat) (cy : Nat → ClassId) (ad : Nat → Nat) (τ nb : Nat) (hτ : τ < nb) (b1 : Nat) (hb1 : b1 < nb) (σ : S2) (a2 : Int32) (sz : Nat) (r0 : Int32) (σ9 : S2) (h : fX6_greatestFor τ b1 σ a2 = some (r0, σ9)) : Met l yX6_greatestFor wsX6_greatestFor ({ frames := 6, cells := 0, slots := 0, locals := 136 }) (va_Pc [.ref (ad 18), .ref (ad (182 + 6 * b1)), .int a2] (wPre (dC, dI) cy (wG (cC cy ad τ) ad (182 + 6 * nb) σ) sz)) (va_Qi (fun (r : Int32) (_ : Unit) => r = r0) (fun (_ : Unit) t => wAt (dC, dI) (va_A (wG (cC cy ad τ) ad (182 + 6 * nb) σ) sz) (wG (cC cy ad τ) ad (182 + 6 * nb) σ9) t) (va_A (wG (cC cy ad τ) ad (182 + 6 * nb) σ) sz)) 0 0 (va_A (wG (cC cy ad τ) ad (182 + 6 * nb) σ) sz) := by
  refine Met.ofW (cc := cX6_greatestFor) (maxL := 6) (ret := (some .int)) (by decide) rfl ?_
  intro p e s m args below meth c s₁ B hml hv
  obtain ⟨rfl, hsz, hP, hK, hD0, hN⟩ := hv
  have hx := B.exec
  have hb := B.bytes
  have hr := B.returns
  have hts := atoms_spec (ws := wsX6_greatestFor) B.pre
  have hown : s.vm.findClass RX6 = some m.cls := findClass_of_methodNamed B.named
  have hlocks := B.notSynchronized
  subst hsz
  have hD := hD0.self (sz := s.heap.size)
  generalize hAe : va_A (wG (cC cy ad τ) ad (182 + 6 * nb) σ) s.heap.size = A at hD ⊢
  have hA : ∀ q : Nat, s.heap.size ≤ q → A q := fun q h => by rw [← hAe]; exact Or.inr h
  have hS : va_S A s.heap s.heap [] := va_S.rf
  have hl := lv_entry ([.ref (ad 18), .ref (ad (182 + 6 * b1)), .int a2]) (n := 6) (Nat.le_of_ble_eq_true rfl)
  rw [lg_entry_eq]
  generalize (lg_sl ([.ref (ad 18), .ref (ad (182 + 6 * b1)), .int a2]) ++ List.replicate (6 - (lg_sl ([.ref (ad 18), .ref (ad (182 + 6 * b1)), .int a2])).length) Slot.unset).toArray = ls at hl ⊢
  have hl : lv_has ls 6 [(0, .ref (ad 18)), (1, .ref (ad (182 + 6 * b1))), (2, .int a2)] := hl
  unfold fX6_greatestFor at h
  clear hAe hD0
  suffices HH : ∀ (H : Heap) (locs : List Loc) (ls : Array Slot), fX6_greatestFor_0 τ b1 σ a2 = some (r0, σ9) → va_P (dC, dI) vwCl (wG (cC cy ad τ) ad (182 + 6 * nb) σ) H → va_D A (wG (cC cy ad τ) ad (182 + 6 * nb) σ) → va_S A s.heap H locs → lv_has ls 6 [(0, .ref (ad 18)), (1, .ref (ad (182 + 6 * b1))), (2, .int a2)] → W p l e (headSpec wsX6_greatestFor ({ frames := 6, cells := 0, slots := 0, locals := 136 })).room s m (#[.ref (ad 18), .ref (ad (182 + 6 * b1)), .int a2]) below meth c H locs 0 0 (MQ below (va_Qi (fun (r : Int32) (_ : Unit) => r = r0) (fun (_ : Unit) t => wAt (dC, dI) A (wG (cC cy ad τ) ad (182 + 6 * nb) σ9) t) A) (#[.ref (ad 18), .ref (ad (182 + 6 * b1)), .int a2]) s 0 0 A) (F0 m 0 ls []) from HH s.heap [] ls h hP hD hS hl
  have w75 : ∀ (k25 : S2 → Int32 → Int32 → Int32 → Option (Int32 × S2)) (hk25 : ∀ (σ : S2) (x2 : Int32) (x3 : Int32) (x4 : Int32) (H : Heap) (locs : List Loc) (ls : Array Slot), k25 σ x2 x3 x4 = some (r0, σ9) → va_P (dC, dI) vwCl (wG (cC cy ad τ) ad (182 + 6 * nb) σ) H → va_D A (wG (cC cy ad τ) ad (182 + 6 * nb) σ) → va_S A s.heap H locs → lv_has ls 6 [(0, .ref (ad 18)), (2, .int x2), (3, .int x3), (4, .int x4)] → W p l e (headSpec wsX6_greatestFor ({ frames := 6, cells := 0, slots := 0, locals := 136 })).room s m (#[.ref (ad 18), .ref (ad (182 + 6 * b1)), .int a2]) below meth c H locs 0 0 (MQ below (va_Qi (fun (r : Int32) (_ : Unit) => r = r0) (fun (_ : Unit) t => wAt (dC, dI) A (wG (cC cy ad τ) ad (182 + 6 * nb) σ9) t) A) (#[.ref (ad 18), .ref (ad (182 + 6 * b1)), .int a2]) s 0 0 A) (F0 m 25 ls [])) , ∀ (σ : S2) (x2 : Int32) (x3 : Int32) (x4 : Int32) (H : Heap) (locs : List Loc) (ls : Array Slot), fX6_greatestFor_75 τ b1 k25 σ x2 x3 x4 = some (r0, σ9) → va_P (dC, dI) vwCl (wG (cC cy ad τ) ad (182 + 6 * nb) σ) H → va_D A (wG (cC cy ad τ) ad (182 + 6 * nb) σ) → va_S A s.heap H locs → lv_has ls 6 [(0, .ref (ad 18)), (2, .int x2), (3, .int x3), (4, .int x4)] → W p l e (headSpec wsX6_greatestFor ({ frames := 6, cells := 0, slots := 0, locals := 136 })).room s m (#[.ref (ad 18), .ref (ad (182 + 6 * b1)), .int a2]) below meth c H locs 0 0 (MQ below (va_Qi (fun (r : Int32) (_ : Unit) => r = r0) (fun (_ : Unit) t => wAt (dC, dI) A (wG (cC cy ad τ) ad (182 + 6 * nb) σ9) t) A) (#[.ref (ad 18), .ref (ad (182 + 6 * b1)), .int a2]) s 0 0 A) (F0 m 75 ls []) := by
    intro k25 hk25 σ x2 x3 x4 H locs ls h hP hD hS hl
    unfold fX6_greatestFor_75 at h
    obtain ⟨v1, ev1⟩ : ∃ y : Int32, y = x4 + 1 := ⟨_, rfl⟩
    have h := nmS h ev1
    refine lv_iinc (v := v1) (lv' := [(4, .int v1), (0, .ref (ad 18)), (2, .int x2), (3, .int x3)]) hx hb dX6_greatestFor_75 hl (k := 3) rfl (by rw [ev1]; rfl) (by decide) rfl (fun ls hl => ?_)
    have hl := lv_sub hl [1, 2, 3, 0] (l' := [(0, .ref (ad 18)), (2, .int x2), (3, .int x3), (4, .int v1)]) rfl
    refine lv_goto (tgt := 25) hx hb dX6_greatestFor_78 (by decide) ?_
    exact hk25 σ x2 x3 v1 H locs ls h hP hD hS hl
  have w25 : ∀ (n : Nat), ∀ (σ : S2) (x2 : Int32) (x3 : Int32) (x4 : Int32) (H : Heap) (locs : List Loc) (ls : Array Slot), fX6_greatestFor_25 τ b1 n σ x2 x3 x4 = some (r0, σ9) → va_P (dC, dI) vwCl (wG (cC cy ad τ) ad (182 + 6 * nb) σ) H → va_D A (wG (cC cy ad τ) ad (182 + 6 * nb) σ) → va_S A s.heap H locs → lv_has ls 6 [(0, .ref (ad 18)), (2, .int x2), (3, .int x3), (4, .int x4)] → W p l e (headSpec wsX6_greatestFor ({ frames := 6, cells := 0, slots := 0, locals := 136 })).room s m (#[.ref (ad 18), .ref (ad (182 + 6 * b1)), .int a2]) below meth c H locs 0 0 (MQ below (va_Qi (fun (r : Int32) (_ : Unit) => r = r0) (fun (_ : Unit) t => wAt (dC, dI) A (wG (cC cy ad τ) ad (182 + 6 * nb) σ9) t) A) (#[.ref (ad 18), .ref (ad (182 + 6 * b1)), .int a2]) s 0 0 A) (F0 m 25 ls []) := by
    intro n
    induction n with
    | zero => intro σ x2 x3 x4 H locs ls h; cases h
    | succ n ih =>
    intro σ x2 x3 x4 H locs ls h hP hD hS hl
    unfold fX6_greatestFor_25 at h
    refine lv_iload hx hb dX6_greatestFor_25 (lv_at hl 3 rfl) ?_
    refine lv_aload_n hx hb dX6_greatestFor_27 rfl (lv_at hl 0 rfl) ?_
    refine ux_get (D := (dC, dI)) (ci := 6) (v := .ref (ad 14)) (C := RX6) (T := TX6) (M := 12) (fs := (oPC ad (σ.1 18))) hx hb hts (fun _ h9 => List.mem_cons_of_mem _ (List.mem_append_left _ (List.mem_append_left _ (List.mem_append_left _ (List.mem_append_left _ (List.mem_append_right _ h9)))))) hown hK hP 18 (Nat.lt_of_lt_of_le (Nat.le_of_ble_eq_true rfl : 18 < 182) (Nat.le_add_right _ _)) (cC_18 _ _ _ _ _) rfl 11 (by decide) (hts (.fieldLink RX6 50 "SeatsRound$Parcels" "choice" "LSeatsRound$Choice;") (List.mem_of_getElem? (i := 1) rfl)) (fun _ h9 => h9) rfl dX6_greatestFor_28 ?_
    refine ux_get (D := (dC, dI)) (ci := 1) (v := .int (σ.1 14 3)) (C := RX1) (T := TX1) (M := 9) (fs := (oCH ad (σ.1 14))) hx hb hts (fun _ h9 => List.mem_cons_of_mem _ (List.mem_append_left _ (List.mem_append_left _ (List.mem_append_right _ h9)))) hown hK hP 14 (Nat.lt_of_lt_of_le (Nat.le_of_ble_eq_true rfl : 14 < 182) (Nat.le_add_right _ _)) (cC_14 _ _ _ _ _) rfl 3 (by decide) (hts (.fieldLink RX6 71 "SeatsRound$Choice" "chosenCount" "I") (List.mem_of_getElem? (i := 4) rfl)) (fun _ h9 => h9) rfl dX6_greatestFor_31 ?_
    refine lv_icmp_ge (tgt := 81) hx hb dX6_greatestFor_34 (by decide) (fun hcd => ?_) (fun hcd => ?_)
    · have h := cdP hcd h
      refine lv_iload_n hx hb dX6_greatestFor_81 rfl (lv_at hl 2 rfl) ?_
      exact ux_iret hx hb hr h hP hD hS hlocks dX6_greatestFor_82
    · have h := cdN hcd h
      refine lv_aload_n hx hb dX6_greatestFor_37 rfl (lv_at hl 0 rfl) ?_
      refine ux_get (D := (dC, dI)) (ci := 6) (v := .ref (ad 14)) (C := RX6) (T := TX6) (M := 12) (fs := (oPC ad (σ.1 18))) hx hb hts (fun _ h9 => List.mem_cons_of_mem _ (List.mem_append_left _ (List.mem_append_left _ (List.mem_append_left _ (List.mem_append_left _ (List.mem_append_right _ h9)))))) hown hK hP 18 (Nat.lt_of_lt_of_le (Nat.le_of_ble_eq_true rfl : 18 < 182) (Nat.le_add_right _ _)) (cC_18 _ _ _ _ _) rfl 11 (by decide) (hts (.fieldLink RX6 50 "SeatsRound$Parcels" "choice" "LSeatsRound$Choice;") (List.mem_of_getElem? (i := 1) rfl)) (fun _ h9 => h9) rfl dX6_greatestFor_38 ?_
      refine ux_get (D := (dC, dI)) (ci := 1) (v := .ref (ad 16)) (C := RX1) (T := TX1) (M := 9) (fs := (oCH ad (σ.1 14))) hx hb hts (fun _ h9 => List.mem_cons_of_mem _ (List.mem_append_left _ (List.mem_append_left _ (List.mem_append_right _ h9)))) hown hK hP 14 (Nat.lt_of_lt_of_le (Nat.le_of_ble_eq_true rfl : 14 < 182) (Nat.le_add_right _ _)) (cC_14 _ _ _ _ _) rfl 1 (by decide) (hts (.fieldLink RX6 74 "SeatsRound$Choice" "chosen" "[I") (List.mem_of_getElem? (i := 5) rfl)) (fun _ h9 => h9) rfl dX6_greatestFor_41 ?_
      refine lv_iload hx hb dX6_greatestFor_44 (lv_at hl 3 rfl) ?_
      refine ux_iald hx hb hK hP 16 0 (Nat.lt_of_lt_of_le (Nat.le_of_ble_eq_true rfl : 16 < 182) (Nat.le_add_right _ _)) (cC_16 _ _ _ _ _) rfl h dX6_greatestFor_46 (fun v2 h => ?_)
      refine lv_istore (lv' := [(5, .int v2), (0, .ref (ad 18)), (2, .int x2), (3, .int x3), (4, .int x4)]) hx hb dX6_greatestFor_47 hl (by decide) rfl (fun ls hl => ?_)
      have hl := lv_sub hl [1, 2, 3, 4, 0] (l' := [(0, .ref (ad 18)), (2, .int x2), (3, .int x3), (4, .int x4), (5, .int v2)]) rfl
      refine lv_aload_n hx hb dX6_greatestFor_49 rfl (lv_at hl 0 rfl) ?_
      refine ux_get (D := (dC, dI)) (ci := 6) (v := .ref (ad 7)) (C := RX6) (T := TX6) (M := 12) (fs := (oPC ad (σ.1 18))) hx hb hts (fun _ h9 => List.mem_cons_of_mem _ (List.mem_append_left _ (List.mem_append_left _ (List.mem_append_left _ (List.mem_append_left _ (List.mem_append_right _ h9)))))) hown hK hP 18 (Nat.lt_of_lt_of_le (Nat.le_of_ble_eq_true rfl : 18 < 182) (Nat.le_add_right _ _)) (cC_18 _ _ _ _ _) rfl 9 (by decide) (hts (.fieldLink RX6 42 "SeatsRound$Parcels" "keepers" "LSeatsRound$Keepers;") (List.mem_of_getElem? (i := 6) rfl)) (fun _ h9 => h9) rfl dX6_greatestFor_50 ?_
      refine lv_iload hx hb dX6_greatestFor_53 (lv_at hl 4 rfl) ?_
      obtain ⟨r3, hf4, h⟩ := biS h
      refine ux_calli (va_runV (As := [.int v2]) (rest := []) ⟨hx, hb, hml, hown, hts⟩ (tX2_isUp l dC dI cy ad τ nb hτ σ v2 H.size r3 hf4) (cwV 1 hts gX6_greatestFor_X2_isUp rfl rfl rfl (by decide +kernel) ⟨Nat.le_of_ble_eq_true rfl, Nat.le_of_ble_eq_true rfl⟩) (wp_V hK hN hP hD (va_recv hK hP (ci := 2) (q0 := 7) rfl (wG_of (Nat.lt_of_lt_of_le (Nat.le_of_ble_eq_true rfl : 7 < 182) (Nat.le_add_right _ _)) (cC_7 _ _ _ _ _)))) rfl rfl hl.1 rfl (lv_room (Nat.le_of_ble_eq_true rfl)) dX6_greatestFor_55 ⟨Nat.le_of_ble_eq_true rfl, Nat.le_of_ble_eq_true rfl⟩) hD hS hA (fun H locs hP hD hS => ?_)
      refine lv_if_eq (tgt := 75) hx hb dX6_greatestFor_58 (by decide) (fun hcd => ?_) (fun hcd => ?_)
      · have h := cdP hcd h
        exact w75 _ ih σ x2 x3 x4 H locs ls h hP hD hS (lv_sub hl [0, 1, 2, 3] rfl)
      · have h := cdN hcd h
        refine lv_iload_n hx hb dX6_greatestFor_61 rfl (lv_at hl 2 rfl) ?_
        refine lv_aload_n hx hb dX6_greatestFor_62 rfl (lv_at hl 0 rfl) ?_
        refine ux_get (D := (dC, dI)) (ci := 6) (v := .ref (ad 19)) (C := RX6) (T := TX6) (M := 12) (fs := (oPC ad (σ.1 18))) hx hb hts (fun _ h9 => List.mem_cons_of_mem _ (List.mem_append_left _ (List.mem_append_left _ (List.mem_append_left _ (List.mem_append_left _ (List.mem_append_right _ h9)))))) hown hK hP 18 (Nat.lt_of_lt_of_le (Nat.le_of_ble_eq_true rfl : 18 < 182) (Nat.le_add_right _ _)) (cC_18 _ _ _ _ _) rfl 0 (by decide) (hts (.fieldLink RX6 11 "SeatsRound$Parcels" "version" "[[I") (List.mem_of_getElem? (i := 7) rfl)) (fun _ h9 => h9) rfl dX6_greatestFor_63 ?_
        refine lv_iload hx hb dX6_greatestFor_66 (lv_at hl 4 rfl) ?_
        obtain ⟨hii5, h⟩ := ckS h
        have hri5 := vp_lt hii5
        refine vz_aldg hx hb hK hP 19 6 (wG_of (Nat.lt_of_lt_of_le (Nat.le_of_ble_eq_true rfl : 19 < 182) (Nat.le_add_right _ _)) (cC_19 _ _ _ _ _)) rfl hii5 (if_pos hri5) dX6_greatestFor_68 ?_
        refine lv_iload_n hx hb dX6_greatestFor_69 rfl (lv_at hl 1 rfl) ?_
        refine ux_iald hx hb hK hP (84 + Int32.toNatClampNeg v2) 0 (by omega) (cC_r1 _ _ _ _ _ _ (by omega)) rfl h dX6_greatestFor_70 (fun v6 h => ?_)
        refine va_mmax hx hb (hml.trans hl.1.symm) hown (hts (.methodLink RX6 130 Lib.Math.max.name) (List.mem_of_getElem? (i := 8) rfl)) (hts (.static Lib.Math.max.name) (List.mem_of_getElem? (i := 9) rfl)) (hts (.initialized "java/lang/Math") (List.mem_of_getElem? (i := 10) rfl)) (hts (.code Lib.Math.max.name Lib.Math.max.code 2 (some .int)) (List.mem_of_getElem? (i := 11) rfl)) (Nat.le_of_ble_eq_true rfl) (Nat.le_of_ble_eq_true rfl) (Nat.le_of_ble_eq_true rfl) (Nat.le_of_ble_eq_true rfl) dX6_greatestFor_71 ?_
        refine lv_topi (fun v7 ev7 => ?_)
        have h := nmS h ev7
        refine lv_istore_n (lv' := [(3, .int v7), (0, .ref (ad 18)), (2, .int x2), (4, .int x4), (5, .int v2)]) hx hb dX6_greatestFor_74 rfl hl (by decide) rfl (fun ls hl => ?_)
        have hl := lv_sub hl [1, 2, 0, 3, 4] (l' := [(0, .ref (ad 18)), (2, .int x2), (3, .int v7), (4, .int x4), (5, .int v2)]) rfl
        exact w75 _ ih σ x2 v7 x4 H locs ls h hP hD hS (lv_sub hl [0, 1, 2, 3] rfl)
  have w0 : ∀ (σ : S2) (x2 : Int32) (H : Heap) (locs : List Loc) (ls : Array Slot), fX6_greatestFor_0 τ b1 σ x2 = some (r0, σ9) → va_P (dC, dI) vwCl (wG (cC cy ad τ) ad (182 + 6 * nb) σ) H → va_D A (wG (cC cy ad τ) ad (182 + 6 * nb) σ) → va_S A s.heap H locs → lv_has ls 6 [(0, .ref (ad 18)), (1, .ref (ad (182 + 6 * b1))), (2, .int x2)] → W p l e (headSpec wsX6_greatestFor ({ frames := 6, cells := 0, slots := 0, locals := 136 })).room s m (#[.ref (ad 18), .ref (ad (182 + 6 * b1)), .int a2]) below meth c H locs 0 0 (MQ below (va_Qi (fun (r : Int32) (_ : Unit) => r = r0) (fun (_ : Unit) t => wAt (dC, dI) A (wG (cC cy ad τ) ad (182 + 6 * nb) σ9) t) A) (#[.ref (ad 18), .ref (ad (182 + 6 * b1)), .int a2]) s 0 0 A) (F0 m 0 ls []) := by
    intro σ x2 H locs ls h hP hD hS hl
    unfold fX6_greatestFor_0 at h
    refine lv_aload_n hx hb dX6_greatestFor_0 rfl (lv_at hl 0 rfl) ?_
    refine ux_get (D := (dC, dI)) (ci := 6) (v := .ref (ad 14)) (C := RX6) (T := TX6) (M := 12) (fs := (oPC ad (σ.1 18))) hx hb hts (fun _ h9 => List.mem_cons_of_mem _ (List.mem_append_left _ (List.mem_append_left _ (List.mem_append_left _ (List.mem_append_left _ (List.mem_append_right _ h9)))))) hown hK hP 18 (Nat.lt_of_lt_of_le (Nat.le_of_ble_eq_true rfl : 18 < 182) (Nat.le_add_right _ _)) (cC_18 _ _ _ _ _) rfl 11 (by decide) (hts (.fieldLink RX6 50 "SeatsRound$Parcels" "choice" "LSeatsRound$Choice;") (List.mem_of_getElem? (i := 1) rfl)) (fun _ h9 => h9) rfl dX6_greatestFor_1 ?_
    refine lv_aload_n hx hb dX6_greatestFor_4 rfl (lv_at hl 1 rfl) ?_
    refine lv_aload_n hx hb dX6_greatestFor_5 rfl (lv_at hl 0 rfl) ?_
    refine ux_get (D := (dC, dI)) (ci := 6) (v := .ref (ad 3)) (C := RX6) (T := TX6) (M := 12) (fs := (oPC ad (σ.1 18))) hx hb hts (fun _ h9 => List.mem_cons_of_mem _ (List.mem_append_left _ (List.mem_append_left _ (List.mem_append_left _ (List.mem_append_left _ (List.mem_append_right _ h9)))))) hown hK hP 18 (Nat.lt_of_lt_of_le (Nat.le_of_ble_eq_true rfl : 18 < 182) (Nat.le_add_right _ _)) (cC_18 _ _ _ _ _) rfl 10 (by decide) (hts (.fieldLink RX6 46 "SeatsRound$Parcels" "nameList" "LSeatsRound$NameList;") (List.mem_of_getElem? (i := 2) rfl)) (fun _ h9 => h9) rfl dX6_greatestFor_6 ?_
    refine lv_iload_n hx hb dX6_greatestFor_9 rfl (lv_at hl 2 rfl) ?_
    refine lv_aload_n hx hb dX6_greatestFor_10 rfl (lv_at hl 1 rfl) ?_
    refine ux_get (D := (dC, dI)) (ci := 8) (v := .int (σ.1 (182 + 6 * b1) 1)) (C := RX8) (T := TX8) (M := 13) (fs := (oTB ad (182 + 6 * b1) (σ.1 (182 + 6 * b1)))) hx hb hts (fun _ h9 => List.mem_cons_of_mem _ (List.mem_append_left _ (List.mem_append_left _ (List.mem_append_left _ (List.mem_append_right _ h9))))) hown hK hP (182 + 6 * b1) (by omega) (cC_t0 _ _ _ _ _ b1) rfl 1 (by decide) (hts (.fieldLink RX6 54 "SeatsRound$Table" "turn" "I") (List.mem_of_getElem? (i := 3) rfl)) (fun _ h9 => h9) rfl dX6_greatestFor_11 ?_
    change W _ _ _ _ _ _ _ _ _ _ _ _ _ _ _ (F0 m 14 ls [.int (σ.1 (182 + 6 * b1) 1), .int x2, .ref (ad 3), .ref (ad (182 + 6 * b1)), .ref (ad 14)])
    obtain ⟨r8, hf9, h⟩ := biS h
    refine ux_calli (va_runV (As := [.int x2, .int (σ.1 (182 + 6 * b1) 1)]) (rest := [.ref (ad (182 + 6 * b1)), .ref (ad 14)]) ⟨hx, hb, hml, hown, hts⟩ (tX4_placeOf l dC dI cy ad τ nb hτ σ x2 (σ.1 (182 + 6 * b1) 1) H.size r8 hf9) (cwV 2 hts gX6_greatestFor_X4_placeOf rfl rfl rfl (by decide +kernel) ⟨Nat.le_of_ble_eq_true rfl, Nat.le_of_ble_eq_true rfl⟩) (wp_V hK hN hP hD (va_recv hK hP (ci := 4) (q0 := 3) rfl (wG_of (Nat.lt_of_lt_of_le (Nat.le_of_ble_eq_true rfl : 3 < 182) (Nat.le_add_right _ _)) (cC_3 _ _ _ _ _)))) rfl rfl hl.1 rfl (lv_room (Nat.le_of_ble_eq_true rfl)) dX6_greatestFor_14 ⟨Nat.le_of_ble_eq_true rfl, Nat.le_of_ble_eq_true rfl⟩) hD hS hA (fun H locs hP hD hS => ?_)
    obtain ⟨r10, σ11, hf12, h⟩ := bsS h
    refine ux_callv (va_runV (As := [.ref (ad (182 + 6 * b1)), .int r8]) (rest := []) ⟨hx, hb, hml, hown, hts⟩ (tX1_choose l dC dI cy ad τ nb hτ b1 (by omega) σ r8 H.size r10 σ11 hf12) (cwV 2 hts gX6_greatestFor_X1_choose rfl rfl rfl (by decide +kernel) ⟨Nat.le_of_ble_eq_true rfl, Nat.le_of_ble_eq_true rfl⟩) (wp_V hK hN hP hD (va_recv hK hP (ci := 1) (q0 := 14) rfl (wG_of (Nat.lt_of_lt_of_le (Nat.le_of_ble_eq_true rfl : 14 < 182) (Nat.le_add_right _ _)) (cC_14 _ _ _ _ _)))) rfl rfl hl.1 rfl (lv_room (Nat.le_of_ble_eq_true rfl)) dX6_greatestFor_17 ⟨Nat.le_of_ble_eq_true rfl, Nat.le_of_ble_eq_true rfl⟩) hD hS hA (fun H locs hP hD hS => ?_)
    refine lv_iconst (v := 0) hx hb dX6_greatestFor_20 (by decide) ?_
    refine lv_istore_n (lv' := [(3, .int 0), (0, .ref (ad 18)), (1, .ref (ad (182 + 6 * b1))), (2, .int x2)]) hx hb dX6_greatestFor_21 rfl hl (by decide) rfl (fun ls hl => ?_)
    have hl := lv_sub hl [1, 2, 3, 0] (l' := [(0, .ref (ad 18)), (1, .ref (ad (182 + 6 * b1))), (2, .int x2), (3, .int 0)]) rfl
    refine lv_iconst (v := 0) hx hb dX6_greatestFor_22 (by decide) ?_
    refine lv_istore (lv' := [(4, .int 0), (0, .ref (ad 18)), (1, .ref (ad (182 + 6 * b1))), (2, .int x2), (3, .int 0)]) hx hb dX6_greatestFor_23 hl (by decide) rfl (fun ls hl => ?_)
    have hl := lv_sub hl [1, 2, 3, 4, 0] (l' := [(0, .ref (ad 18)), (1, .ref (ad (182 + 6 * b1))), (2, .int x2), (3, .int 0), (4, .int 0)]) rfl
    exact w25 FU σ11 x2 0 0 H locs ls h hP hD hS (lv_sub hl [0, 2, 3, 4] rfl)
  intro H locs ls h hP hD hS hl
  exact w0 σ a2 H locs ls h hP hD hS (lv_sub hl [0, 1, 2] rfl)

set_option maxHeartbeats 4000000 in
set_option maxRecDepth 100000 in
theorem tX6_movePiece (l : Launch) (dC : Nat → ClassId) (dI : Nat → Nat → Nat) (cy : Nat → ClassId) (ad : Nat → Nat) (τ nb : Nat) (hτ : τ < nb) (σ : S2) (a1 : Int32) (a2 : Int32) (a3 : Int32) (sz : Nat) (r0 : Int32) (σ9 : S2) (h : fX6_movePiece τ σ a1 a2 a3 = some (r0, σ9)) : Met l yX6_movePiece wsX6_movePiece ({ frames := 2, cells := 0, slots := 0, locals := 46 }) (va_Pc [.ref (ad 18), .int a1, .int a2, .int a3] (wPre (dC, dI) cy (wG (cC cy ad τ) ad (182 + 6 * nb) σ) sz)) (va_Qi (fun (r : Int32) (_ : Unit) => r = r0) (fun (_ : Unit) t => wAt (dC, dI) (va_A (wG (cC cy ad τ) ad (182 + 6 * nb) σ) sz) (wG (cC cy ad τ) ad (182 + 6 * nb) σ9) t) (va_A (wG (cC cy ad τ) ad (182 + 6 * nb) σ) sz)) 0 0 (va_A (wG (cC cy ad τ) ad (182 + 6 * nb) σ) sz) := by
  refine Met.ofW (cc := cX6_movePiece) (maxL := 4) (ret := (some .int)) (by decide) rfl ?_
  intro p e s m args below meth c s₁ B hml hv
  obtain ⟨rfl, hsz, hP, hK, hD0, hN⟩ := hv
  have hx := B.exec
  have hb := B.bytes
  have hr := B.returns
  have hts := atoms_spec (ws := wsX6_movePiece) B.pre
  have hown : s.vm.findClass RX6 = some m.cls := findClass_of_methodNamed B.named
  have hlocks := B.notSynchronized
  subst hsz
  have hD := hD0.self (sz := s.heap.size)
  generalize hAe : va_A (wG (cC cy ad τ) ad (182 + 6 * nb) σ) s.heap.size = A at hD ⊢
  have hA : ∀ q : Nat, s.heap.size ≤ q → A q := fun q h => by rw [← hAe]; exact Or.inr h
  have hS : va_S A s.heap s.heap [] := va_S.rf
  have hl := lv_entry ([.ref (ad 18), .int a1, .int a2, .int a3]) (n := 4) (Nat.le_of_ble_eq_true rfl)
  rw [lg_entry_eq]
  generalize (lg_sl ([.ref (ad 18), .int a1, .int a2, .int a3]) ++ List.replicate (4 - (lg_sl ([.ref (ad 18), .int a1, .int a2, .int a3])).length) Slot.unset).toArray = ls at hl ⊢
  have hl : lv_has ls 4 [(0, .ref (ad 18)), (1, .int a1), (2, .int a2), (3, .int a3)] := hl
  unfold fX6_movePiece at h
  clear hAe hD0
  suffices HH : ∀ (H : Heap) (locs : List Loc) (ls : Array Slot), fX6_movePiece_0 τ σ a1 a2 a3 = some (r0, σ9) → va_P (dC, dI) vwCl (wG (cC cy ad τ) ad (182 + 6 * nb) σ) H → va_D A (wG (cC cy ad τ) ad (182 + 6 * nb) σ) → va_S A s.heap H locs → lv_has ls 4 [(0, .ref (ad 18)), (1, .int a1), (2, .int a2), (3, .int a3)] → W p l e (headSpec wsX6_movePiece ({ frames := 2, cells := 0, slots := 0, locals := 46 })).room s m (#[.ref (ad 18), .int a1, .int a2, .int a3]) below meth c H locs 0 0 (MQ below (va_Qi (fun (r : Int32) (_ : Unit) => r = r0) (fun (_ : Unit) t => wAt (dC, dI) A (wG (cC cy ad τ) ad (182 + 6 * nb) σ9) t) A) (#[.ref (ad 18), .int a1, .int a2, .int a3]) s 0 0 A) (F0 m 0 ls []) from HH s.heap [] ls h hP hD hS hl
  have w22 : ∀ (σ : S2) (x1 : Int32) (x2 : Int32) (H : Heap) (locs : List Loc) (ls : Array Slot), fX6_movePiece_22 τ σ x1 x2 = some (r0, σ9) → va_P (dC, dI) vwCl (wG (cC cy ad τ) ad (182 + 6 * nb) σ) H → va_D A (wG (cC cy ad τ) ad (182 + 6 * nb) σ) → va_S A s.heap H locs → lv_has ls 4 [(0, .ref (ad 18)), (1, .int x1), (2, .int x2)] → W p l e (headSpec wsX6_movePiece ({ frames := 2, cells := 0, slots := 0, locals := 46 })).room s m (#[.ref (ad 18), .int a1, .int a2, .int a3]) below meth c H locs 0 0 (MQ below (va_Qi (fun (r : Int32) (_ : Unit) => r = r0) (fun (_ : Unit) t => wAt (dC, dI) A (wG (cC cy ad τ) ad (182 + 6 * nb) σ9) t) A) (#[.ref (ad 18), .int a1, .int a2, .int a3]) s 0 0 A) (F0 m 22 ls []) := by
    intro σ x1 x2 H locs ls h hP hD hS hl
    unfold fX6_movePiece_22 at h
    refine lv_aload_n hx hb dX6_movePiece_22 rfl (lv_at hl 0 rfl) ?_
    refine ux_get (D := (dC, dI)) (ci := 6) (v := .ref (ad 22)) (C := RX6) (T := TX6) (M := 12) (fs := (oPC ad (σ.1 18))) hx hb hts (fun _ h9 => List.mem_cons_of_mem _ (List.mem_append_left _ (List.mem_append_right _ h9))) hown hK hP 18 (Nat.lt_of_lt_of_le (Nat.le_of_ble_eq_true rfl : 18 < 182) (Nat.le_add_right _ _)) (cC_18 _ _ _ _ _) rfl 3 (by decide) (hts (.fieldLink RX6 22 "SeatsRound$Parcels" "pieces" "[[I") (List.mem_of_getElem? (i := 2) rfl)) (fun _ h9 => h9) rfl dX6_movePiece_23 ?_
    refine lv_iload_n hx hb dX6_movePiece_26 rfl (lv_at hl 2 rfl) ?_
    obtain ⟨hii1, h⟩ := ckS h
    have hri1 := vp_lt hii1
    refine vz_aldg hx hb hK hP 22 6 (wG_of (Nat.lt_of_lt_of_le (Nat.le_of_ble_eq_true rfl : 22 < 182) (Nat.le_add_right _ _)) (cC_22 _ _ _ _ _)) rfl hii1 (if_pos hri1) dX6_movePiece_27 ?_
    refine lv_iload_n hx hb dX6_movePiece_28 rfl (lv_at hl 1 rfl) ?_
    refine lv_iconst (v := 0) hx hb dX6_movePiece_29 (by decide) ?_
    refine ux_iast hx hb hK hP hD hS (120 + Int32.toNatClampNeg x2) 0 (by omega) (fun _ => (cC_r4 _ _ _ _ _ _ (by omega))) rfl h dX6_movePiece_30 (fun σ2 H locs h hP hD hS => ?_)
    refine lv_iconst (v := 0) hx hb dX6_movePiece_31 (by decide) ?_
    exact ux_iret hx hb hr h hP hD hS hlocks dX6_movePiece_32
  have w54 : ∀ (σ : S2) (x1 : Int32) (x2 : Int32) (x3 : Int32) (H : Heap) (locs : List Loc) (ls : Array Slot), fX6_movePiece_54 τ σ x1 x2 x3 = some (r0, σ9) → va_P (dC, dI) vwCl (wG (cC cy ad τ) ad (182 + 6 * nb) σ) H → va_D A (wG (cC cy ad τ) ad (182 + 6 * nb) σ) → va_S A s.heap H locs → lv_has ls 4 [(0, .ref (ad 18)), (1, .int x1), (2, .int x2), (3, .int x3)] → W p l e (headSpec wsX6_movePiece ({ frames := 2, cells := 0, slots := 0, locals := 46 })).room s m (#[.ref (ad 18), .int a1, .int a2, .int a3]) below meth c H locs 0 0 (MQ below (va_Qi (fun (r : Int32) (_ : Unit) => r = r0) (fun (_ : Unit) t => wAt (dC, dI) A (wG (cC cy ad τ) ad (182 + 6 * nb) σ9) t) A) (#[.ref (ad 18), .int a1, .int a2, .int a3]) s 0 0 A) (F0 m 54 ls []) := by
    intro σ x1 x2 x3 H locs ls h hP hD hS hl
    unfold fX6_movePiece_54 at h
    refine lv_aload_n hx hb dX6_movePiece_54 rfl (lv_at hl 0 rfl) ?_
    refine ux_get (D := (dC, dI)) (ci := 6) (v := .ref (ad 23)) (C := RX6) (T := TX6) (M := 12) (fs := (oPC ad (σ.1 18))) hx hb hts (fun _ h9 => List.mem_cons_of_mem _ (List.mem_append_left _ (List.mem_append_right _ h9))) hown hK hP 18 (Nat.lt_of_lt_of_le (Nat.le_of_ble_eq_true rfl : 18 < 182) (Nat.le_add_right _ _)) (cC_18 _ _ _ _ _) rfl 4 (by decide) (hts (.fieldLink RX6 25 "SeatsRound$Parcels" "pieceTo" "[[I") (List.mem_of_getElem? (i := 3) rfl)) (fun _ h9 => h9) rfl dX6_movePiece_55 ?_
    refine lv_iload_n hx hb dX6_movePiece_58 rfl (lv_at hl 2 rfl) ?_
    obtain ⟨hii3, h⟩ := ckS h
    have hri3 := vp_lt hii3
    refine vz_aldg hx hb hK hP 23 6 (wG_of (Nat.lt_of_lt_of_le (Nat.le_of_ble_eq_true rfl : 23 < 182) (Nat.le_add_right _ _)) (cC_23 _ _ _ _ _)) rfl hii3 (if_pos hri3) dX6_movePiece_59 ?_
    refine lv_iload_n hx hb dX6_movePiece_60 rfl (lv_at hl 1 rfl) ?_
    refine lv_iload_n hx hb dX6_movePiece_61 rfl (lv_at hl 3 rfl) ?_
    refine ux_iast hx hb hK hP hD hS (132 + Int32.toNatClampNeg x2) 0 (by omega) (fun _ => (cC_r5 _ _ _ _ _ _ (by omega))) rfl h dX6_movePiece_62 (fun σ4 H locs h hP hD hS => ?_)
    refine lv_aload_n hx hb dX6_movePiece_63 rfl (lv_at hl 0 rfl) ?_
    refine ux_get (D := (dC, dI)) (ci := 6) (v := .ref (ad 22)) (C := RX6) (T := TX6) (M := 12) (fs := (oPC ad (σ4.1 18))) hx hb hts (fun _ h9 => List.mem_cons_of_mem _ (List.mem_append_left _ (List.mem_append_right _ h9))) hown hK hP 18 (Nat.lt_of_lt_of_le (Nat.le_of_ble_eq_true rfl : 18 < 182) (Nat.le_add_right _ _)) (cC_18 _ _ _ _ _) rfl 3 (by decide) (hts (.fieldLink RX6 22 "SeatsRound$Parcels" "pieces" "[[I") (List.mem_of_getElem? (i := 2) rfl)) (fun _ h9 => h9) rfl dX6_movePiece_64 ?_
    refine lv_iload_n hx hb dX6_movePiece_67 rfl (lv_at hl 2 rfl) ?_
    obtain ⟨hii5, h⟩ := ckS h
    have hri5 := vp_lt hii5
    refine vz_aldg hx hb hK hP 22 6 (wG_of (Nat.lt_of_lt_of_le (Nat.le_of_ble_eq_true rfl : 22 < 182) (Nat.le_add_right _ _)) (cC_22 _ _ _ _ _)) rfl hii5 (if_pos hri5) dX6_movePiece_68 ?_
    refine lv_iload_n hx hb dX6_movePiece_69 rfl (lv_at hl 1 rfl) ?_
    refine lv_dup2_11 hx hb dX6_movePiece_70 rfl rfl ?_
    refine ux_iald hx hb hK hP (120 + Int32.toNatClampNeg x2) 0 (by omega) (cC_r4 _ _ _ _ _ _ (by omega)) rfl h dX6_movePiece_71 (fun v6 h => ?_)
    refine lv_iconst (v := 1) hx hb dX6_movePiece_72 (by decide) ?_
    refine lv_iadd hx hb dX6_movePiece_73 ?_
    refine ux_iast hx hb hK hP hD hS (120 + Int32.toNatClampNeg x2) 0 (by omega) (fun _ => (cC_r4 _ _ _ _ _ _ (by omega))) rfl h dX6_movePiece_74 (fun σ7 H locs h hP hD hS => ?_)
    refine lv_aload_n hx hb dX6_movePiece_75 rfl (lv_at hl 0 rfl) ?_
    refine ux_get (D := (dC, dI)) (ci := 6) (v := .ref (ad 22)) (C := RX6) (T := TX6) (M := 12) (fs := (oPC ad (σ7.1 18))) hx hb hts (fun _ h9 => List.mem_cons_of_mem _ (List.mem_append_left _ (List.mem_append_right _ h9))) hown hK hP 18 (Nat.lt_of_lt_of_le (Nat.le_of_ble_eq_true rfl : 18 < 182) (Nat.le_add_right _ _)) (cC_18 _ _ _ _ _) rfl 3 (by decide) (hts (.fieldLink RX6 22 "SeatsRound$Parcels" "pieces" "[[I") (List.mem_of_getElem? (i := 2) rfl)) (fun _ h9 => h9) rfl dX6_movePiece_76 ?_
    refine lv_iload_n hx hb dX6_movePiece_79 rfl (lv_at hl 2 rfl) ?_
    obtain ⟨hii8, h⟩ := ckS h
    have hri8 := vp_lt hii8
    refine vz_aldg hx hb hK hP 22 6 (wG_of (Nat.lt_of_lt_of_le (Nat.le_of_ble_eq_true rfl : 22 < 182) (Nat.le_add_right _ _)) (cC_22 _ _ _ _ _)) rfl hii8 (if_pos hri8) dX6_movePiece_80 ?_
    refine lv_iload_n hx hb dX6_movePiece_81 rfl (lv_at hl 1 rfl) ?_
    refine ux_iald hx hb hK hP (120 + Int32.toNatClampNeg x2) 0 (by omega) (cC_r4 _ _ _ _ _ _ (by omega)) rfl h dX6_movePiece_82 (fun v9 h => ?_)
    refine lv_iconst (v := 3) hx hb dX6_movePiece_83 (by decide) ?_
    refine lv_icmp_ge (tgt := 96) hx hb dX6_movePiece_84 (by decide) (fun hcd => ?_) (fun hcd => ?_)
    · have h := cdP hcd h
      refine lv_aload_n hx hb dX6_movePiece_96 rfl (lv_at hl 0 rfl) ?_
      refine lv_iload_n hx hb dX6_movePiece_97 rfl (lv_at hl 3 rfl) ?_
      refine lv_iload_n hx hb dX6_movePiece_98 rfl (lv_at hl 1 rfl) ?_
      refine lv_aload_n hx hb dX6_movePiece_99 rfl (lv_at hl 0 rfl) ?_
      refine ux_get (D := (dC, dI)) (ci := 6) (v := .ref (ad 19)) (C := RX6) (T := TX6) (M := 12) (fs := (oPC ad (σ7.1 18))) hx hb hts (fun _ h9 => List.mem_cons_of_mem _ (List.mem_append_left _ (List.mem_append_right _ h9))) hown hK hP 18 (Nat.lt_of_lt_of_le (Nat.le_of_ble_eq_true rfl : 18 < 182) (Nat.le_add_right _ _)) (cC_18 _ _ _ _ _) rfl 0 (by decide) (hts (.fieldLink RX6 11 "SeatsRound$Parcels" "version" "[[I") (List.mem_of_getElem? (i := 4) rfl)) (fun _ h9 => h9) rfl dX6_movePiece_100 ?_
      refine lv_iload_n hx hb dX6_movePiece_103 rfl (lv_at hl 2 rfl) ?_
      obtain ⟨hii10, h⟩ := ckS h
      have hri10 := vp_lt hii10
      refine vz_aldg hx hb hK hP 19 6 (wG_of (Nat.lt_of_lt_of_le (Nat.le_of_ble_eq_true rfl : 19 < 182) (Nat.le_add_right _ _)) (cC_19 _ _ _ _ _)) rfl hii10 (if_pos hri10) dX6_movePiece_104 ?_
      refine lv_iload_n hx hb dX6_movePiece_105 rfl (lv_at hl 1 rfl) ?_
      refine ux_iald hx hb hK hP (84 + Int32.toNatClampNeg x2) 0 (by omega) (cC_r1 _ _ _ _ _ _ (by omega)) rfl h dX6_movePiece_106 (fun v11 h => ?_)
      obtain ⟨r12, σ13, hf14, h⟩ := bsS h
      refine ux_calli (va_runV (As := [.int x3, .int x1, .int v11]) (rest := []) ⟨hx, hb, hml, hown, hts⟩ (tX6_takesGreater l dC dI cy ad τ nb hτ σ7 x3 x1 v11 H.size r12 σ13 hf14) (cwV 3 hts gX6_movePiece_X6_takesGreater rfl rfl rfl (by decide +kernel) ⟨Nat.le_of_ble_eq_true rfl, Nat.le_of_ble_eq_true rfl⟩) (wp_V hK hN hP hD (va_recv hK hP (ci := 6) (q0 := 18) rfl (wG_of (Nat.lt_of_lt_of_le (Nat.le_of_ble_eq_true rfl : 18 < 182) (Nat.le_add_right _ _)) (cC_18 _ _ _ _ _)))) rfl rfl hl.1 rfl (lv_room (Nat.le_of_ble_eq_true rfl)) dX6_movePiece_107 ⟨Nat.le_of_ble_eq_true rfl, Nat.le_of_ble_eq_true rfl⟩) hD hS hA (fun H locs hP hD hS => ?_)
      refine lv_pop hx hb dX6_movePiece_110 rfl ?_
      refine lv_aload_n hx hb dX6_movePiece_111 rfl (lv_at hl 0 rfl) ?_
      refine ux_get (D := (dC, dI)) (ci := 6) (v := .ref (ad 19)) (C := RX6) (T := TX6) (M := 12) (fs := (oPC ad (σ13.1 18))) hx hb hts (fun _ h9 => List.mem_cons_of_mem _ (List.mem_append_left _ (List.mem_append_right _ h9))) hown hK hP 18 (Nat.lt_of_lt_of_le (Nat.le_of_ble_eq_true rfl : 18 < 182) (Nat.le_add_right _ _)) (cC_18 _ _ _ _ _) rfl 0 (by decide) (hts (.fieldLink RX6 11 "SeatsRound$Parcels" "version" "[[I") (List.mem_of_getElem? (i := 4) rfl)) (fun _ h9 => h9) rfl dX6_movePiece_112 ?_
      refine lv_iload_n hx hb dX6_movePiece_115 rfl (lv_at hl 2 rfl) ?_
      obtain ⟨hii15, h⟩ := ckS h
      have hri15 := vp_lt hii15
      refine vz_aldg hx hb hK hP 19 6 (wG_of (Nat.lt_of_lt_of_le (Nat.le_of_ble_eq_true rfl : 19 < 182) (Nat.le_add_right _ _)) (cC_19 _ _ _ _ _)) rfl hii15 (if_pos hri15) dX6_movePiece_116 ?_
      refine lv_iload_n hx hb dX6_movePiece_117 rfl (lv_at hl 1 rfl) ?_
      refine lv_iconst (v := 0) hx hb dX6_movePiece_118 (by decide) ?_
      refine ux_iast hx hb hK hP hD hS (84 + Int32.toNatClampNeg x2) 0 (by omega) (fun _ => (cC_r1 _ _ _ _ _ _ (by omega))) rfl h dX6_movePiece_119 (fun σ16 H locs h hP hD hS => ?_)
      refine lv_aload_n hx hb dX6_movePiece_120 rfl (lv_at hl 0 rfl) ?_
      refine ux_get (D := (dC, dI)) (ci := 6) (v := .ref (ad 22)) (C := RX6) (T := TX6) (M := 12) (fs := (oPC ad (σ16.1 18))) hx hb hts (fun _ h9 => List.mem_cons_of_mem _ (List.mem_append_left _ (List.mem_append_right _ h9))) hown hK hP 18 (Nat.lt_of_lt_of_le (Nat.le_of_ble_eq_true rfl : 18 < 182) (Nat.le_add_right _ _)) (cC_18 _ _ _ _ _) rfl 3 (by decide) (hts (.fieldLink RX6 22 "SeatsRound$Parcels" "pieces" "[[I") (List.mem_of_getElem? (i := 2) rfl)) (fun _ h9 => h9) rfl dX6_movePiece_121 ?_
      refine lv_iload_n hx hb dX6_movePiece_124 rfl (lv_at hl 2 rfl) ?_
      obtain ⟨hii17, h⟩ := ckS h
      have hri17 := vp_lt hii17
      refine vz_aldg hx hb hK hP 22 6 (wG_of (Nat.lt_of_lt_of_le (Nat.le_of_ble_eq_true rfl : 22 < 182) (Nat.le_add_right _ _)) (cC_22 _ _ _ _ _)) rfl hii17 (if_pos hri17) dX6_movePiece_125 ?_
      refine lv_iload_n hx hb dX6_movePiece_126 rfl (lv_at hl 1 rfl) ?_
      refine lv_iconst (v := 0) hx hb dX6_movePiece_127 (by decide) ?_
      refine ux_iast hx hb hK hP hD hS (120 + Int32.toNatClampNeg x2) 0 (by omega) (fun _ => (cC_r4 _ _ _ _ _ _ (by omega))) rfl h dX6_movePiece_128 (fun σ18 H locs h hP hD hS => ?_)
      refine lv_iconst (v := 3) hx hb dX6_movePiece_129 (by decide) ?_
      exact ux_iret hx hb hr h hP hD hS hlocks dX6_movePiece_130
    · have h := cdN hcd h
      refine lv_aload_n hx hb dX6_movePiece_87 rfl (lv_at hl 0 rfl) ?_
      refine ux_get (D := (dC, dI)) (ci := 6) (v := .ref (ad 22)) (C := RX6) (T := TX6) (M := 12) (fs := (oPC ad (σ7.1 18))) hx hb hts (fun _ h9 => List.mem_cons_of_mem _ (List.mem_append_left _ (List.mem_append_right _ h9))) hown hK hP 18 (Nat.lt_of_lt_of_le (Nat.le_of_ble_eq_true rfl : 18 < 182) (Nat.le_add_right _ _)) (cC_18 _ _ _ _ _) rfl 3 (by decide) (hts (.fieldLink RX6 22 "SeatsRound$Parcels" "pieces" "[[I") (List.mem_of_getElem? (i := 2) rfl)) (fun _ h9 => h9) rfl dX6_movePiece_88 ?_
      refine lv_iload_n hx hb dX6_movePiece_91 rfl (lv_at hl 2 rfl) ?_
      obtain ⟨hii19, h⟩ := ckS h
      have hri19 := vp_lt hii19
      refine vz_aldg hx hb hK hP 22 6 (wG_of (Nat.lt_of_lt_of_le (Nat.le_of_ble_eq_true rfl : 22 < 182) (Nat.le_add_right _ _)) (cC_22 _ _ _ _ _)) rfl hii19 (if_pos hri19) dX6_movePiece_92 ?_
      refine lv_iload_n hx hb dX6_movePiece_93 rfl (lv_at hl 1 rfl) ?_
      refine ux_iald hx hb hK hP (120 + Int32.toNatClampNeg x2) 0 (by omega) (cC_r4 _ _ _ _ _ _ (by omega)) rfl h dX6_movePiece_94 (fun v20 h => ?_)
      exact ux_iret hx hb hr h hP hD hS hlocks dX6_movePiece_95
  have w0 : ∀ (σ : S2) (x1 : Int32) (x2 : Int32) (x3 : Int32) (H : Heap) (locs : List Loc) (ls : Array Slot), fX6_movePiece_0 τ σ x1 x2 x3 = some (r0, σ9) → va_P (dC, dI) vwCl (wG (cC cy ad τ) ad (182 + 6 * nb) σ) H → va_D A (wG (cC cy ad τ) ad (182 + 6 * nb) σ) → va_S A s.heap H locs → lv_has ls 4 [(0, .ref (ad 18)), (1, .int x1), (2, .int x2), (3, .int x3)] → W p l e (headSpec wsX6_movePiece ({ frames := 2, cells := 0, slots := 0, locals := 46 })).room s m (#[.ref (ad 18), .int a1, .int a2, .int a3]) below meth c H locs 0 0 (MQ below (va_Qi (fun (r : Int32) (_ : Unit) => r = r0) (fun (_ : Unit) t => wAt (dC, dI) A (wG (cC cy ad τ) ad (182 + 6 * nb) σ9) t) A) (#[.ref (ad 18), .int a1, .int a2, .int a3]) s 0 0 A) (F0 m 0 ls []) := by
    intro σ x1 x2 x3 H locs ls h hP hD hS hl
    unfold fX6_movePiece_0 at h
    refine lv_aload_n hx hb dX6_movePiece_0 rfl (lv_at hl 0 rfl) ?_
    refine ux_get (D := (dC, dI)) (ci := 6) (v := .ref (ad 7)) (C := RX6) (T := TX6) (M := 12) (fs := (oPC ad (σ.1 18))) hx hb hts (fun _ h9 => List.mem_cons_of_mem _ (List.mem_append_left _ (List.mem_append_right _ h9))) hown hK hP 18 (Nat.lt_of_lt_of_le (Nat.le_of_ble_eq_true rfl : 18 < 182) (Nat.le_add_right _ _)) (cC_18 _ _ _ _ _) rfl 9 (by decide) (hts (.fieldLink RX6 42 "SeatsRound$Parcels" "keepers" "LSeatsRound$Keepers;") (List.mem_of_getElem? (i := 1) rfl)) (fun _ h9 => h9) rfl dX6_movePiece_1 ?_
    refine lv_iload_n hx hb dX6_movePiece_4 rfl (lv_at hl 2 rfl) ?_
    obtain ⟨r21, hf22, h⟩ := biS h
    refine ux_calli (va_runV (As := [.int x2]) (rest := []) ⟨hx, hb, hml, hown, hts⟩ (tX2_isUp l dC dI cy ad τ nb hτ σ x2 H.size r21 hf22) (cwV 1 hts gX6_movePiece_X2_isUp rfl rfl rfl (by decide +kernel) ⟨Nat.le_of_ble_eq_true rfl, Nat.le_of_ble_eq_true rfl⟩) (wp_V hK hN hP hD (va_recv hK hP (ci := 2) (q0 := 7) rfl (wG_of (Nat.lt_of_lt_of_le (Nat.le_of_ble_eq_true rfl : 7 < 182) (Nat.le_add_right _ _)) (cC_7 _ _ _ _ _)))) rfl rfl hl.1 rfl (lv_room (Nat.le_of_ble_eq_true rfl)) dX6_movePiece_5 ⟨Nat.le_of_ble_eq_true rfl, Nat.le_of_ble_eq_true rfl⟩) hD hS hA (fun H locs hP hD hS => ?_)
    refine lv_if_eq (tgt := 22) hx hb dX6_movePiece_8 (by decide) (fun hcd => ?_) (fun hcd => ?_)
    · have h := cdP hcd h
      exact w22 σ x1 x2 H locs ls h hP hD hS (lv_sub hl [0, 1, 2] rfl)
    · have h := cdN hcd h
      refine lv_aload_n hx hb dX6_movePiece_11 rfl (lv_at hl 0 rfl) ?_
      refine ux_get (D := (dC, dI)) (ci := 6) (v := .ref (ad 7)) (C := RX6) (T := TX6) (M := 12) (fs := (oPC ad (σ.1 18))) hx hb hts (fun _ h9 => List.mem_cons_of_mem _ (List.mem_append_left _ (List.mem_append_right _ h9))) hown hK hP 18 (Nat.lt_of_lt_of_le (Nat.le_of_ble_eq_true rfl : 18 < 182) (Nat.le_add_right _ _)) (cC_18 _ _ _ _ _) rfl 9 (by decide) (hts (.fieldLink RX6 42 "SeatsRound$Parcels" "keepers" "LSeatsRound$Keepers;") (List.mem_of_getElem? (i := 1) rfl)) (fun _ h9 => h9) rfl dX6_movePiece_12 ?_
      refine lv_iload_n hx hb dX6_movePiece_15 rfl (lv_at hl 3 rfl) ?_
      obtain ⟨r23, hf24, h⟩ := biS h
      refine ux_calli (va_runV (As := [.int x3]) (rest := []) ⟨hx, hb, hml, hown, hts⟩ (tX2_isUp l dC dI cy ad τ nb hτ σ x3 H.size r23 hf24) (cwV 1 hts gX6_movePiece_X2_isUp rfl rfl rfl (by decide +kernel) ⟨Nat.le_of_ble_eq_true rfl, Nat.le_of_ble_eq_true rfl⟩) (wp_V hK hN hP hD (va_recv hK hP (ci := 2) (q0 := 7) rfl (wG_of (Nat.lt_of_lt_of_le (Nat.le_of_ble_eq_true rfl : 7 < 182) (Nat.le_add_right _ _)) (cC_7 _ _ _ _ _)))) rfl rfl hl.1 rfl (lv_room (Nat.le_of_ble_eq_true rfl)) dX6_movePiece_16 ⟨Nat.le_of_ble_eq_true rfl, Nat.le_of_ble_eq_true rfl⟩) hD hS hA (fun H locs hP hD hS => ?_)
      refine lv_if_ne (tgt := 33) hx hb dX6_movePiece_19 (by decide) (fun hcd => ?_) (fun hcd => ?_)
      · have h := cdN hcd h
        refine lv_aload_n hx hb dX6_movePiece_33 rfl (lv_at hl 0 rfl) ?_
        refine ux_get (D := (dC, dI)) (ci := 6) (v := .ref (ad 23)) (C := RX6) (T := TX6) (M := 12) (fs := (oPC ad (σ.1 18))) hx hb hts (fun _ h9 => List.mem_cons_of_mem _ (List.mem_append_left _ (List.mem_append_right _ h9))) hown hK hP 18 (Nat.lt_of_lt_of_le (Nat.le_of_ble_eq_true rfl : 18 < 182) (Nat.le_add_right _ _)) (cC_18 _ _ _ _ _) rfl 4 (by decide) (hts (.fieldLink RX6 25 "SeatsRound$Parcels" "pieceTo" "[[I") (List.mem_of_getElem? (i := 3) rfl)) (fun _ h9 => h9) rfl dX6_movePiece_34 ?_
        refine lv_iload_n hx hb dX6_movePiece_37 rfl (lv_at hl 2 rfl) ?_
        obtain ⟨hii25, h⟩ := ckS h
        have hri25 := vp_lt hii25
        refine vz_aldg hx hb hK hP 23 6 (wG_of (Nat.lt_of_lt_of_le (Nat.le_of_ble_eq_true rfl : 23 < 182) (Nat.le_add_right _ _)) (cC_23 _ _ _ _ _)) rfl hii25 (if_pos hri25) dX6_movePiece_38 ?_
        refine lv_iload_n hx hb dX6_movePiece_39 rfl (lv_at hl 1 rfl) ?_
        refine ux_iald hx hb hK hP (132 + Int32.toNatClampNeg x2) 0 (by omega) (cC_r5 _ _ _ _ _ _ (by omega)) rfl h dX6_movePiece_40 (fun v26 h => ?_)
        refine lv_iload_n hx hb dX6_movePiece_41 rfl (lv_at hl 3 rfl) ?_
        refine lv_icmp_eq (tgt := 54) hx hb dX6_movePiece_42 (by decide) (fun hcd => ?_) (fun hcd => ?_)
        · have h := cdP hcd h
          exact w54 σ x1 x2 x3 H locs ls h hP hD hS hl
        · have h := cdN hcd h
          refine lv_aload_n hx hb dX6_movePiece_45 rfl (lv_at hl 0 rfl) ?_
          refine ux_get (D := (dC, dI)) (ci := 6) (v := .ref (ad 22)) (C := RX6) (T := TX6) (M := 12) (fs := (oPC ad (σ.1 18))) hx hb hts (fun _ h9 => List.mem_cons_of_mem _ (List.mem_append_left _ (List.mem_append_right _ h9))) hown hK hP 18 (Nat.lt_of_lt_of_le (Nat.le_of_ble_eq_true rfl : 18 < 182) (Nat.le_add_right _ _)) (cC_18 _ _ _ _ _) rfl 3 (by decide) (hts (.fieldLink RX6 22 "SeatsRound$Parcels" "pieces" "[[I") (List.mem_of_getElem? (i := 2) rfl)) (fun _ h9 => h9) rfl dX6_movePiece_46 ?_
          refine lv_iload_n hx hb dX6_movePiece_49 rfl (lv_at hl 2 rfl) ?_
          obtain ⟨hii27, h⟩ := ckS h
          have hri27 := vp_lt hii27
          refine vz_aldg hx hb hK hP 22 6 (wG_of (Nat.lt_of_lt_of_le (Nat.le_of_ble_eq_true rfl : 22 < 182) (Nat.le_add_right _ _)) (cC_22 _ _ _ _ _)) rfl hii27 (if_pos hri27) dX6_movePiece_50 ?_
          refine lv_iload_n hx hb dX6_movePiece_51 rfl (lv_at hl 1 rfl) ?_
          refine lv_iconst (v := 0) hx hb dX6_movePiece_52 (by decide) ?_
          refine ux_iast hx hb hK hP hD hS (120 + Int32.toNatClampNeg x2) 0 (by omega) (fun _ => (cC_r4 _ _ _ _ _ _ (by omega))) rfl h dX6_movePiece_53 (fun σ28 H locs h hP hD hS => ?_)
          exact w54 σ28 x1 x2 x3 H locs ls h hP hD hS hl
      · have h := cdP hcd h
        exact w22 σ x1 x2 H locs ls h hP hD hS (lv_sub hl [0, 1, 2] rfl)
  intro H locs ls h hP hD hS hl
  exact w0 σ a1 a2 a3 H locs ls h hP hD hS (lv_sub hl [0, 1, 2, 3] rfl)

set_option maxHeartbeats 4000000 in
set_option maxRecDepth 100000 in
theorem tX6_greatestAnywhere (l : Launch) (dC : Nat → ClassId) (dI : Nat → Nat → Nat) (cy : Nat → ClassId) (ad : Nat → Nat) (τ nb : Nat) (hτ : τ < nb) (σ : S2) (a1 : Int32) (sz : Nat) (r0 : Int32) (h : fX6_greatestAnywhere τ σ a1 = some r0) : Met l yX6_greatestAnywhere wsX6_greatestAnywhere ({ frames := 2, cells := 0, slots := 0, locals := 40 }) (va_Pc [.ref (ad 18), .int a1] (wPre (dC, dI) cy (wG (cC cy ad τ) ad (182 + 6 * nb) σ) sz)) (va_Qi (fun (r : Int32) (_ : Unit) => r = r0) (fun (_ : Unit) t => wAt (dC, dI) (va_A (wG (cC cy ad τ) ad (182 + 6 * nb) σ) sz) (wG (cC cy ad τ) ad (182 + 6 * nb) σ) t) (va_A (wG (cC cy ad τ) ad (182 + 6 * nb) σ) sz)) 0 0 (va_A (wG (cC cy ad τ) ad (182 + 6 * nb) σ) sz) := by
  refine Met.ofW (cc := cX6_greatestAnywhere) (maxL := 4) (ret := (some .int)) (by decide) rfl ?_
  intro p e s m args below meth c s₁ B hml hv
  obtain ⟨rfl, hsz, hP, hK, hD0, hN⟩ := hv
  have hx := B.exec
  have hb := B.bytes
  have hr := B.returns
  have hts := atoms_spec (ws := wsX6_greatestAnywhere) B.pre
  have hown : s.vm.findClass RX6 = some m.cls := findClass_of_methodNamed B.named
  have hlocks := B.notSynchronized
  subst hsz
  have hD := hD0.self (sz := s.heap.size)
  generalize hAe : va_A (wG (cC cy ad τ) ad (182 + 6 * nb) σ) s.heap.size = A at hD ⊢
  have hA : ∀ q : Nat, s.heap.size ≤ q → A q := fun q h => by rw [← hAe]; exact Or.inr h
  have hS : va_S A s.heap s.heap [] := va_S.rf
  have hl := lv_entry ([.ref (ad 18), .int a1]) (n := 4) (Nat.le_of_ble_eq_true rfl)
  rw [lg_entry_eq]
  generalize (lg_sl ([.ref (ad 18), .int a1]) ++ List.replicate (4 - (lg_sl ([.ref (ad 18), .int a1])).length) Slot.unset).toArray = ls at hl ⊢
  have hl : lv_has ls 4 [(0, .ref (ad 18)), (1, .int a1)] := hl
  unfold fX6_greatestAnywhere at h
  clear hAe hD0
  suffices HH : ∀ (H : Heap) (locs : List Loc) (ls : Array Slot), fX6_greatestAnywhere_0 τ σ a1 = some r0 → va_P (dC, dI) vwCl (wG (cC cy ad τ) ad (182 + 6 * nb) σ) H → va_D A (wG (cC cy ad τ) ad (182 + 6 * nb) σ) → va_S A s.heap H locs → lv_has ls 4 [(0, .ref (ad 18)), (1, .int a1)] → W p l e (headSpec wsX6_greatestAnywhere ({ frames := 2, cells := 0, slots := 0, locals := 40 })).room s m (#[.ref (ad 18), .int a1]) below meth c H locs 0 0 (MQ below (va_Qi (fun (r : Int32) (_ : Unit) => r = r0) (fun (_ : Unit) t => wAt (dC, dI) A (wG (cC cy ad τ) ad (182 + 6 * nb) σ) t) A) (#[.ref (ad 18), .int a1]) s 0 0 A) (F0 m 0 ls []) from HH s.heap [] ls h hP hD hS hl
  have w40 : ∀ (k4 : S2 → Int32 → Int32 → Int32 → Option Int32) (hk4 : ∀ (σ : S2) (x1 : Int32) (x2 : Int32) (x3 : Int32) (H : Heap) (locs : List Loc) (ls : Array Slot), k4 σ x1 x2 x3 = some r0 → va_P (dC, dI) vwCl (wG (cC cy ad τ) ad (182 + 6 * nb) σ) H → va_D A (wG (cC cy ad τ) ad (182 + 6 * nb) σ) → va_S A s.heap H locs → lv_has ls 4 [(0, .ref (ad 18)), (1, .int x1), (2, .int x2), (3, .int x3)] → W p l e (headSpec wsX6_greatestAnywhere ({ frames := 2, cells := 0, slots := 0, locals := 40 })).room s m (#[.ref (ad 18), .int a1]) below meth c H locs 0 0 (MQ below (va_Qi (fun (r : Int32) (_ : Unit) => r = r0) (fun (_ : Unit) t => wAt (dC, dI) A (wG (cC cy ad τ) ad (182 + 6 * nb) σ) t) A) (#[.ref (ad 18), .int a1]) s 0 0 A) (F0 m 4 ls [])) , ∀ (σ : S2) (x1 : Int32) (x2 : Int32) (x3 : Int32) (H : Heap) (locs : List Loc) (ls : Array Slot), fX6_greatestAnywhere_40 τ k4 σ x1 x2 x3 = some r0 → va_P (dC, dI) vwCl (wG (cC cy ad τ) ad (182 + 6 * nb) σ) H → va_D A (wG (cC cy ad τ) ad (182 + 6 * nb) σ) → va_S A s.heap H locs → lv_has ls 4 [(0, .ref (ad 18)), (1, .int x1), (2, .int x2), (3, .int x3)] → W p l e (headSpec wsX6_greatestAnywhere ({ frames := 2, cells := 0, slots := 0, locals := 40 })).room s m (#[.ref (ad 18), .int a1]) below meth c H locs 0 0 (MQ below (va_Qi (fun (r : Int32) (_ : Unit) => r = r0) (fun (_ : Unit) t => wAt (dC, dI) A (wG (cC cy ad τ) ad (182 + 6 * nb) σ) t) A) (#[.ref (ad 18), .int a1]) s 0 0 A) (F0 m 40 ls []) := by
    intro k4 hk4 σ x1 x2 x3 H locs ls h hP hD hS hl
    unfold fX6_greatestAnywhere_40 at h
    obtain ⟨v1, ev1⟩ : ∃ y : Int32, y = x3 + 1 := ⟨_, rfl⟩
    have h := nmS h ev1
    refine lv_iinc (v := v1) (lv' := [(3, .int v1), (0, .ref (ad 18)), (1, .int x1), (2, .int x2)]) hx hb dX6_greatestAnywhere_40 hl (k := 3) rfl (by rw [ev1]; rfl) (by decide) rfl (fun ls hl => ?_)
    have hl := lv_sub hl [1, 2, 3, 0] (l' := [(0, .ref (ad 18)), (1, .int x1), (2, .int x2), (3, .int v1)]) rfl
    refine lv_goto (tgt := 4) hx hb dX6_greatestAnywhere_43 (by decide) ?_
    exact hk4 σ x1 x2 v1 H locs ls h hP hD hS hl
  have w4 : ∀ (n : Nat), ∀ (σ : S2) (x1 : Int32) (x2 : Int32) (x3 : Int32) (H : Heap) (locs : List Loc) (ls : Array Slot), fX6_greatestAnywhere_4 τ n σ x1 x2 x3 = some r0 → va_P (dC, dI) vwCl (wG (cC cy ad τ) ad (182 + 6 * nb) σ) H → va_D A (wG (cC cy ad τ) ad (182 + 6 * nb) σ) → va_S A s.heap H locs → lv_has ls 4 [(0, .ref (ad 18)), (1, .int x1), (2, .int x2), (3, .int x3)] → W p l e (headSpec wsX6_greatestAnywhere ({ frames := 2, cells := 0, slots := 0, locals := 40 })).room s m (#[.ref (ad 18), .int a1]) below meth c H locs 0 0 (MQ below (va_Qi (fun (r : Int32) (_ : Unit) => r = r0) (fun (_ : Unit) t => wAt (dC, dI) A (wG (cC cy ad τ) ad (182 + 6 * nb) σ) t) A) (#[.ref (ad 18), .int a1]) s 0 0 A) (F0 m 4 ls []) := by
    intro n
    induction n with
    | zero => intro σ x1 x2 x3 H locs ls h; cases h
    | succ n ih =>
    intro σ x1 x2 x3 H locs ls h hP hD hS hl
    unfold fX6_greatestAnywhere_4 at h
    refine lv_iload_n hx hb dX6_greatestAnywhere_4 rfl (lv_at hl 3 rfl) ?_
    refine lv_aload_n hx hb dX6_greatestAnywhere_5 rfl (lv_at hl 0 rfl) ?_
    refine ux_get (D := (dC, dI)) (ci := 6) (v := .ref (ad 7)) (C := RX6) (T := TX6) (M := 12) (fs := (oPC ad (σ.1 18))) hx hb hts (fun _ h9 => List.mem_cons_of_mem _ (List.mem_append_left _ (List.mem_append_right _ h9))) hown hK hP 18 (Nat.lt_of_lt_of_le (Nat.le_of_ble_eq_true rfl : 18 < 182) (Nat.le_add_right _ _)) (cC_18 _ _ _ _ _) rfl 9 (by decide) (hts (.fieldLink RX6 42 "SeatsRound$Parcels" "keepers" "LSeatsRound$Keepers;") (List.mem_of_getElem? (i := 1) rfl)) (fun _ h9 => h9) rfl dX6_greatestAnywhere_6 ?_
    refine ux_get (D := (dC, dI)) (ci := 2) (v := .int (σ.1 7 5)) (C := RX2) (T := TX2) (M := 6) (fs := (oKP ad (σ.1 7))) hx hb hts (fun _ h9 => List.mem_cons_of_mem _ (List.mem_append_right _ h9)) hown hK hP 7 (Nat.lt_of_lt_of_le (Nat.le_of_ble_eq_true rfl : 7 < 182) (Nat.le_add_right _ _)) (cC_7 _ _ _ _ _) rfl 5 (by decide) (hts (.fieldLink RX6 120 "SeatsRound$Keepers" "count" "I") (List.mem_of_getElem? (i := 2) rfl)) (fun _ h9 => h9) rfl dX6_greatestAnywhere_9 ?_
    refine lv_icmp_ge (tgt := 46) hx hb dX6_greatestAnywhere_12 (by decide) (fun hcd => ?_) (fun hcd => ?_)
    · have h := cdP hcd h
      refine lv_iload_n hx hb dX6_greatestAnywhere_46 rfl (lv_at hl 2 rfl) ?_
      exact ux_iretP hx hb hr h hP hD hS hlocks dX6_greatestAnywhere_47
    · have h := cdN hcd h
      refine lv_aload_n hx hb dX6_greatestAnywhere_15 rfl (lv_at hl 0 rfl) ?_
      refine ux_get (D := (dC, dI)) (ci := 6) (v := .ref (ad 7)) (C := RX6) (T := TX6) (M := 12) (fs := (oPC ad (σ.1 18))) hx hb hts (fun _ h9 => List.mem_cons_of_mem _ (List.mem_append_left _ (List.mem_append_right _ h9))) hown hK hP 18 (Nat.lt_of_lt_of_le (Nat.le_of_ble_eq_true rfl : 18 < 182) (Nat.le_add_right _ _)) (cC_18 _ _ _ _ _) rfl 9 (by decide) (hts (.fieldLink RX6 42 "SeatsRound$Parcels" "keepers" "LSeatsRound$Keepers;") (List.mem_of_getElem? (i := 1) rfl)) (fun _ h9 => h9) rfl dX6_greatestAnywhere_16 ?_
      refine ux_get (D := (dC, dI)) (ci := 2) (v := .ref (ad 12)) (C := RX2) (T := TX2) (M := 6) (fs := (oKP ad (σ.1 7))) hx hb hts (fun _ h9 => List.mem_cons_of_mem _ (List.mem_append_right _ h9)) hown hK hP 7 (Nat.lt_of_lt_of_le (Nat.le_of_ble_eq_true rfl : 7 < 182) (Nat.le_add_right _ _)) (cC_7 _ _ _ _ _) rfl 4 (by decide) (hts (.fieldLink RX6 81 "SeatsRound$Keepers" "fallen" "[Z") (List.mem_of_getElem? (i := 3) rfl)) (fun _ h9 => h9) rfl dX6_greatestAnywhere_19 ?_
      refine lv_iload_n hx hb dX6_greatestAnywhere_22 rfl (lv_at hl 3 rfl) ?_
      refine ux_zald hx hb hK hP 12 2 (Nat.lt_of_lt_of_le (Nat.le_of_ble_eq_true rfl : 12 < 182) (Nat.le_add_right _ _)) (cC_12 _ _ _ _ _) rfl h dX6_greatestAnywhere_23 (fun v2 h => ?_)
      refine lv_if_ne (tgt := 40) hx hb dX6_greatestAnywhere_24 (by decide) (fun hcd => ?_) (fun hcd => ?_)
      · have h := cdN hcd h
        exact w40 _ ih σ x1 x2 x3 H locs ls h hP hD hS hl
      · have h := cdP hcd h
        refine lv_iload_n hx hb dX6_greatestAnywhere_27 rfl (lv_at hl 2 rfl) ?_
        refine lv_aload_n hx hb dX6_greatestAnywhere_28 rfl (lv_at hl 0 rfl) ?_
        refine ux_get (D := (dC, dI)) (ci := 6) (v := .ref (ad 19)) (C := RX6) (T := TX6) (M := 12) (fs := (oPC ad (σ.1 18))) hx hb hts (fun _ h9 => List.mem_cons_of_mem _ (List.mem_append_left _ (List.mem_append_right _ h9))) hown hK hP 18 (Nat.lt_of_lt_of_le (Nat.le_of_ble_eq_true rfl : 18 < 182) (Nat.le_add_right _ _)) (cC_18 _ _ _ _ _) rfl 0 (by decide) (hts (.fieldLink RX6 11 "SeatsRound$Parcels" "version" "[[I") (List.mem_of_getElem? (i := 4) rfl)) (fun _ h9 => h9) rfl dX6_greatestAnywhere_29 ?_
        refine lv_iload_n hx hb dX6_greatestAnywhere_32 rfl (lv_at hl 3 rfl) ?_
        obtain ⟨hii3, h⟩ := ckS h
        have hri3 := vp_lt hii3
        refine vz_aldg hx hb hK hP 19 6 (wG_of (Nat.lt_of_lt_of_le (Nat.le_of_ble_eq_true rfl : 19 < 182) (Nat.le_add_right _ _)) (cC_19 _ _ _ _ _)) rfl hii3 (if_pos hri3) dX6_greatestAnywhere_33 ?_
        refine lv_iload_n hx hb dX6_greatestAnywhere_34 rfl (lv_at hl 1 rfl) ?_
        refine ux_iald hx hb hK hP (84 + Int32.toNatClampNeg x3) 0 (by omega) (cC_r1 _ _ _ _ _ _ (by omega)) rfl h dX6_greatestAnywhere_35 (fun v4 h => ?_)
        refine va_mmax hx hb (hml.trans hl.1.symm) hown (hts (.methodLink RX6 130 Lib.Math.max.name) (List.mem_of_getElem? (i := 5) rfl)) (hts (.static Lib.Math.max.name) (List.mem_of_getElem? (i := 6) rfl)) (hts (.initialized "java/lang/Math") (List.mem_of_getElem? (i := 7) rfl)) (hts (.code Lib.Math.max.name Lib.Math.max.code 2 (some .int)) (List.mem_of_getElem? (i := 8) rfl)) (Nat.le_of_ble_eq_true rfl) (Nat.le_of_ble_eq_true rfl) (Nat.le_of_ble_eq_true rfl) (Nat.le_of_ble_eq_true rfl) dX6_greatestAnywhere_36 ?_
        refine lv_topi (fun v5 ev5 => ?_)
        have h := nmS h ev5
        refine lv_istore_n (lv' := [(2, .int v5), (0, .ref (ad 18)), (1, .int x1), (3, .int x3)]) hx hb dX6_greatestAnywhere_39 rfl hl (by decide) rfl (fun ls hl => ?_)
        have hl := lv_sub hl [1, 2, 0, 3] (l' := [(0, .ref (ad 18)), (1, .int x1), (2, .int v5), (3, .int x3)]) rfl
        exact w40 _ ih σ x1 v5 x3 H locs ls h hP hD hS hl
  have w0 : ∀ (σ : S2) (x1 : Int32) (H : Heap) (locs : List Loc) (ls : Array Slot), fX6_greatestAnywhere_0 τ σ x1 = some r0 → va_P (dC, dI) vwCl (wG (cC cy ad τ) ad (182 + 6 * nb) σ) H → va_D A (wG (cC cy ad τ) ad (182 + 6 * nb) σ) → va_S A s.heap H locs → lv_has ls 4 [(0, .ref (ad 18)), (1, .int x1)] → W p l e (headSpec wsX6_greatestAnywhere ({ frames := 2, cells := 0, slots := 0, locals := 40 })).room s m (#[.ref (ad 18), .int a1]) below meth c H locs 0 0 (MQ below (va_Qi (fun (r : Int32) (_ : Unit) => r = r0) (fun (_ : Unit) t => wAt (dC, dI) A (wG (cC cy ad τ) ad (182 + 6 * nb) σ) t) A) (#[.ref (ad 18), .int a1]) s 0 0 A) (F0 m 0 ls []) := by
    intro σ x1 H locs ls h hP hD hS hl
    unfold fX6_greatestAnywhere_0 at h
    refine lv_iconst (v := 0) hx hb dX6_greatestAnywhere_0 (by decide) ?_
    refine lv_istore_n (lv' := [(2, .int 0), (0, .ref (ad 18)), (1, .int x1)]) hx hb dX6_greatestAnywhere_1 rfl hl (by decide) rfl (fun ls hl => ?_)
    have hl := lv_sub hl [1, 2, 0] (l' := [(0, .ref (ad 18)), (1, .int x1), (2, .int 0)]) rfl
    refine lv_iconst (v := 0) hx hb dX6_greatestAnywhere_2 (by decide) ?_
    refine lv_istore_n (lv' := [(3, .int 0), (0, .ref (ad 18)), (1, .int x1), (2, .int 0)]) hx hb dX6_greatestAnywhere_3 rfl hl (by decide) rfl (fun ls hl => ?_)
    have hl := lv_sub hl [1, 2, 3, 0] (l' := [(0, .ref (ad 18)), (1, .int x1), (2, .int 0), (3, .int 0)]) rfl
    exact w4 FU σ x1 0 0 H locs ls h hP hD hS hl
  intro H locs ls h hP hD hS hl
  exact w0 σ a1 H locs ls h hP hD hS (lv_sub hl [0, 1] rfl)

set_option maxHeartbeats 4000000 in
set_option maxRecDepth 100000 in
theorem tX6_mendAll (l : Launch) (dC : Nat → ClassId) (dI : Nat → Nat → Nat) (cy : Nat → ClassId) (ad : Nat → Nat) (τ nb : Nat) (hτ : τ < nb) (b1 : Nat) (hb1 : b1 < nb) (σ : S2)  (sz : Nat) (r0 : Int32) (σ9 : S2) (h : fX6_mendAll τ b1 σ = some (r0, σ9)) : Met l yX6_mendAll wsX6_mendAll ({ frames := 6, cells := 0, slots := 0, locals := 136 }) (va_Pc [.ref (ad 18), .ref (ad (182 + 6 * b1))] (wPre (dC, dI) cy (wG (cC cy ad τ) ad (182 + 6 * nb) σ) sz)) (va_Qi (fun (r : Int32) (_ : Unit) => r = r0) (fun (_ : Unit) t => wAt (dC, dI) (va_A (wG (cC cy ad τ) ad (182 + 6 * nb) σ) sz) (wG (cC cy ad τ) ad (182 + 6 * nb) σ9) t) (va_A (wG (cC cy ad τ) ad (182 + 6 * nb) σ) sz)) 0 0 (va_A (wG (cC cy ad τ) ad (182 + 6 * nb) σ) sz) := by
  refine Met.ofW (cc := cX6_mendAll) (maxL := 7) (ret := (some .int)) (by decide) rfl ?_
  intro p e s m args below meth c s₁ B hml hv
  obtain ⟨rfl, hsz, hP, hK, hD0, hN⟩ := hv
  have hx := B.exec
  have hb := B.bytes
  have hr := B.returns
  have hts := atoms_spec (ws := wsX6_mendAll) B.pre
  have hown : s.vm.findClass RX6 = some m.cls := findClass_of_methodNamed B.named
  have hlocks := B.notSynchronized
  subst hsz
  have hD := hD0.self (sz := s.heap.size)
  generalize hAe : va_A (wG (cC cy ad τ) ad (182 + 6 * nb) σ) s.heap.size = A at hD ⊢
  have hA : ∀ q : Nat, s.heap.size ≤ q → A q := fun q h => by rw [← hAe]; exact Or.inr h
  have hS : va_S A s.heap s.heap [] := va_S.rf
  have hl := lv_entry ([.ref (ad 18), .ref (ad (182 + 6 * b1))]) (n := 7) (Nat.le_of_ble_eq_true rfl)
  rw [lg_entry_eq]
  generalize (lg_sl ([.ref (ad 18), .ref (ad (182 + 6 * b1))]) ++ List.replicate (7 - (lg_sl ([.ref (ad 18), .ref (ad (182 + 6 * b1))])).length) Slot.unset).toArray = ls at hl ⊢
  have hl : lv_has ls 7 [(0, .ref (ad 18)), (1, .ref (ad (182 + 6 * b1)))] := hl
  unfold fX6_mendAll at h
  clear hAe hD0
  suffices HH : ∀ (H : Heap) (locs : List Loc) (ls : Array Slot), fX6_mendAll_0 τ b1 σ = some (r0, σ9) → va_P (dC, dI) vwCl (wG (cC cy ad τ) ad (182 + 6 * nb) σ) H → va_D A (wG (cC cy ad τ) ad (182 + 6 * nb) σ) → va_S A s.heap H locs → lv_has ls 7 [(0, .ref (ad 18)), (1, .ref (ad (182 + 6 * b1)))] → W p l e (headSpec wsX6_mendAll ({ frames := 6, cells := 0, slots := 0, locals := 136 })).room s m (#[.ref (ad 18), .ref (ad (182 + 6 * b1))]) below meth c H locs 0 0 (MQ below (va_Qi (fun (r : Int32) (_ : Unit) => r = r0) (fun (_ : Unit) t => wAt (dC, dI) A (wG (cC cy ad τ) ad (182 + 6 * nb) σ9) t) A) (#[.ref (ad 18), .ref (ad (182 + 6 * b1))]) s 0 0 A) (F0 m 0 ls []) from HH s.heap [] ls h hP hD hS hl
  have w110 : ∀ (k4 : S2 → Int32 → Int32 → Option (Int32 × S2)) (hk4 : ∀ (σ : S2) (x2 : Int32) (x3 : Int32) (H : Heap) (locs : List Loc) (ls : Array Slot), k4 σ x2 x3 = some (r0, σ9) → va_P (dC, dI) vwCl (wG (cC cy ad τ) ad (182 + 6 * nb) σ) H → va_D A (wG (cC cy ad τ) ad (182 + 6 * nb) σ) → va_S A s.heap H locs → lv_has ls 7 [(0, .ref (ad 18)), (1, .ref (ad (182 + 6 * b1))), (2, .int x2), (3, .int x3)] → W p l e (headSpec wsX6_mendAll ({ frames := 6, cells := 0, slots := 0, locals := 136 })).room s m (#[.ref (ad 18), .ref (ad (182 + 6 * b1))]) below meth c H locs 0 0 (MQ below (va_Qi (fun (r : Int32) (_ : Unit) => r = r0) (fun (_ : Unit) t => wAt (dC, dI) A (wG (cC cy ad τ) ad (182 + 6 * nb) σ9) t) A) (#[.ref (ad 18), .ref (ad (182 + 6 * b1))]) s 0 0 A) (F0 m 4 ls [])) , ∀ (σ : S2) (x2 : Int32) (x3 : Int32) (H : Heap) (locs : List Loc) (ls : Array Slot), fX6_mendAll_110 τ b1 k4 σ x2 x3 = some (r0, σ9) → va_P (dC, dI) vwCl (wG (cC cy ad τ) ad (182 + 6 * nb) σ) H → va_D A (wG (cC cy ad τ) ad (182 + 6 * nb) σ) → va_S A s.heap H locs → lv_has ls 7 [(0, .ref (ad 18)), (1, .ref (ad (182 + 6 * b1))), (2, .int x2), (3, .int x3)] → W p l e (headSpec wsX6_mendAll ({ frames := 6, cells := 0, slots := 0, locals := 136 })).room s m (#[.ref (ad 18), .ref (ad (182 + 6 * b1))]) below meth c H locs 0 0 (MQ below (va_Qi (fun (r : Int32) (_ : Unit) => r = r0) (fun (_ : Unit) t => wAt (dC, dI) A (wG (cC cy ad τ) ad (182 + 6 * nb) σ9) t) A) (#[.ref (ad 18), .ref (ad (182 + 6 * b1))]) s 0 0 A) (F0 m 110 ls []) := by
    intro k4 hk4 σ x2 x3 H locs ls h hP hD hS hl
    unfold fX6_mendAll_110 at h
    obtain ⟨v1, ev1⟩ : ∃ y : Int32, y = x3 + 1 := ⟨_, rfl⟩
    have h := nmS h ev1
    refine lv_iinc (v := v1) (lv' := [(3, .int v1), (0, .ref (ad 18)), (1, .ref (ad (182 + 6 * b1))), (2, .int x2)]) hx hb dX6_mendAll_110 hl (k := 3) rfl (by rw [ev1]; rfl) (by decide) rfl (fun ls hl => ?_)
    have hl := lv_sub hl [1, 2, 3, 0] (l' := [(0, .ref (ad 18)), (1, .ref (ad (182 + 6 * b1))), (2, .int x2), (3, .int v1)]) rfl
    refine lv_goto (tgt := 4) hx hb dX6_mendAll_113 (by decide) ?_
    exact hk4 σ x2 v1 H locs ls h hP hD hS hl
  have w104 : ∀ (k53 : S2 → Int32 → Int32 → Int32 → Int32 → Option (Int32 × S2)) (hk53 : ∀ (σ : S2) (x2 : Int32) (x3 : Int32) (x4 : Int32) (x5 : Int32) (H : Heap) (locs : List Loc) (ls : Array Slot), k53 σ x2 x3 x4 x5 = some (r0, σ9) → va_P (dC, dI) vwCl (wG (cC cy ad τ) ad (182 + 6 * nb) σ) H → va_D A (wG (cC cy ad τ) ad (182 + 6 * nb) σ) → va_S A s.heap H locs → lv_has ls 7 [(0, .ref (ad 18)), (1, .ref (ad (182 + 6 * b1))), (2, .int x2), (3, .int x3), (4, .int x4), (5, .int x5)] → W p l e (headSpec wsX6_mendAll ({ frames := 6, cells := 0, slots := 0, locals := 136 })).room s m (#[.ref (ad 18), .ref (ad (182 + 6 * b1))]) below meth c H locs 0 0 (MQ below (va_Qi (fun (r : Int32) (_ : Unit) => r = r0) (fun (_ : Unit) t => wAt (dC, dI) A (wG (cC cy ad τ) ad (182 + 6 * nb) σ9) t) A) (#[.ref (ad 18), .ref (ad (182 + 6 * b1))]) s 0 0 A) (F0 m 53 ls [])) , ∀ (σ : S2) (x2 : Int32) (x3 : Int32) (x4 : Int32) (x5 : Int32) (H : Heap) (locs : List Loc) (ls : Array Slot), fX6_mendAll_104 τ b1 k53 σ x2 x3 x4 x5 = some (r0, σ9) → va_P (dC, dI) vwCl (wG (cC cy ad τ) ad (182 + 6 * nb) σ) H → va_D A (wG (cC cy ad τ) ad (182 + 6 * nb) σ) → va_S A s.heap H locs → lv_has ls 7 [(0, .ref (ad 18)), (1, .ref (ad (182 + 6 * b1))), (2, .int x2), (3, .int x3), (4, .int x4), (5, .int x5)] → W p l e (headSpec wsX6_mendAll ({ frames := 6, cells := 0, slots := 0, locals := 136 })).room s m (#[.ref (ad 18), .ref (ad (182 + 6 * b1))]) below meth c H locs 0 0 (MQ below (va_Qi (fun (r : Int32) (_ : Unit) => r = r0) (fun (_ : Unit) t => wAt (dC, dI) A (wG (cC cy ad τ) ad (182 + 6 * nb) σ9) t) A) (#[.ref (ad 18), .ref (ad (182 + 6 * b1))]) s 0 0 A) (F0 m 104 ls []) := by
    intro k53 hk53 σ x2 x3 x4 x5 H locs ls h hP hD hS hl
    unfold fX6_mendAll_104 at h
    obtain ⟨v2, ev2⟩ : ∃ y : Int32, y = x5 + 1 := ⟨_, rfl⟩
    have h := nmS h ev2
    refine lv_iinc (v := v2) (lv' := [(5, .int v2), (0, .ref (ad 18)), (1, .ref (ad (182 + 6 * b1))), (2, .int x2), (3, .int x3), (4, .int x4)]) hx hb dX6_mendAll_104 hl (k := 5) rfl (by rw [ev2]; rfl) (by decide) rfl (fun ls hl => ?_)
    have hl := lv_sub hl [1, 2, 3, 4, 5, 0] (l' := [(0, .ref (ad 18)), (1, .ref (ad (182 + 6 * b1))), (2, .int x2), (3, .int x3), (4, .int x4), (5, .int v2)]) rfl
    refine lv_goto (tgt := 53) hx hb dX6_mendAll_107 (by decide) ?_
    exact hk53 σ x2 x3 x4 v2 H locs ls h hP hD hS hl
  have w53 : ∀ (k4 : S2 → Int32 → Int32 → Option (Int32 × S2)) (hk4 : ∀ (σ : S2) (x2 : Int32) (x3 : Int32) (H : Heap) (locs : List Loc) (ls : Array Slot), k4 σ x2 x3 = some (r0, σ9) → va_P (dC, dI) vwCl (wG (cC cy ad τ) ad (182 + 6 * nb) σ) H → va_D A (wG (cC cy ad τ) ad (182 + 6 * nb) σ) → va_S A s.heap H locs → lv_has ls 7 [(0, .ref (ad 18)), (1, .ref (ad (182 + 6 * b1))), (2, .int x2), (3, .int x3)] → W p l e (headSpec wsX6_mendAll ({ frames := 6, cells := 0, slots := 0, locals := 136 })).room s m (#[.ref (ad 18), .ref (ad (182 + 6 * b1))]) below meth c H locs 0 0 (MQ below (va_Qi (fun (r : Int32) (_ : Unit) => r = r0) (fun (_ : Unit) t => wAt (dC, dI) A (wG (cC cy ad τ) ad (182 + 6 * nb) σ9) t) A) (#[.ref (ad 18), .ref (ad (182 + 6 * b1))]) s 0 0 A) (F0 m 4 ls [])) (n : Nat), ∀ (σ : S2) (x2 : Int32) (x3 : Int32) (x4 : Int32) (x5 : Int32) (H : Heap) (locs : List Loc) (ls : Array Slot), fX6_mendAll_53 τ b1 k4 n σ x2 x3 x4 x5 = some (r0, σ9) → va_P (dC, dI) vwCl (wG (cC cy ad τ) ad (182 + 6 * nb) σ) H → va_D A (wG (cC cy ad τ) ad (182 + 6 * nb) σ) → va_S A s.heap H locs → lv_has ls 7 [(0, .ref (ad 18)), (1, .ref (ad (182 + 6 * b1))), (2, .int x2), (3, .int x3), (4, .int x4), (5, .int x5)] → W p l e (headSpec wsX6_mendAll ({ frames := 6, cells := 0, slots := 0, locals := 136 })).room s m (#[.ref (ad 18), .ref (ad (182 + 6 * b1))]) below meth c H locs 0 0 (MQ below (va_Qi (fun (r : Int32) (_ : Unit) => r = r0) (fun (_ : Unit) t => wAt (dC, dI) A (wG (cC cy ad τ) ad (182 + 6 * nb) σ9) t) A) (#[.ref (ad 18), .ref (ad (182 + 6 * b1))]) s 0 0 A) (F0 m 53 ls []) := by
    intro k4 hk4 n
    induction n with
    | zero => intro σ x2 x3 x4 x5 H locs ls h; cases h
    | succ n ih =>
    intro σ x2 x3 x4 x5 H locs ls h hP hD hS hl
    unfold fX6_mendAll_53 at h
    refine lv_iload hx hb dX6_mendAll_53 (lv_at hl 5 rfl) ?_
    refine lv_aload_n hx hb dX6_mendAll_55 rfl (lv_at hl 0 rfl) ?_
    refine ux_get (D := (dC, dI)) (ci := 6) (v := .ref (ad 14)) (C := RX6) (T := TX6) (M := 12) (fs := (oPC ad (σ.1 18))) hx hb hts (fun _ h9 => List.mem_cons_of_mem _ (List.mem_append_left _ (List.mem_append_left _ (List.mem_append_left _ (List.mem_append_left _ (List.mem_append_right _ h9)))))) hown hK hP 18 (Nat.lt_of_lt_of_le (Nat.le_of_ble_eq_true rfl : 18 < 182) (Nat.le_add_right _ _)) (cC_18 _ _ _ _ _) rfl 11 (by decide) (hts (.fieldLink RX6 50 "SeatsRound$Parcels" "choice" "LSeatsRound$Choice;") (List.mem_of_getElem? (i := 3) rfl)) (fun _ h9 => h9) rfl dX6_mendAll_56 ?_
    refine ux_get (D := (dC, dI)) (ci := 1) (v := .int (σ.1 14 3)) (C := RX1) (T := TX1) (M := 9) (fs := (oCH ad (σ.1 14))) hx hb hts (fun _ h9 => List.mem_cons_of_mem _ (List.mem_append_left _ (List.mem_append_right _ h9))) hown hK hP 14 (Nat.lt_of_lt_of_le (Nat.le_of_ble_eq_true rfl : 14 < 182) (Nat.le_add_right _ _)) (cC_14 _ _ _ _ _) rfl 3 (by decide) (hts (.fieldLink RX6 71 "SeatsRound$Choice" "chosenCount" "I") (List.mem_of_getElem? (i := 5) rfl)) (fun _ h9 => h9) rfl dX6_mendAll_59 ?_
    refine lv_icmp_ge (tgt := 110) hx hb dX6_mendAll_62 (by decide) (fun hcd => ?_) (fun hcd => ?_)
    · have h := cdP hcd h
      exact w110 _ hk4 σ x2 x3 H locs ls h hP hD hS (lv_sub hl [0, 1, 2, 3] rfl)
    · have h := cdN hcd h
      refine lv_aload_n hx hb dX6_mendAll_65 rfl (lv_at hl 0 rfl) ?_
      refine ux_get (D := (dC, dI)) (ci := 6) (v := .ref (ad 14)) (C := RX6) (T := TX6) (M := 12) (fs := (oPC ad (σ.1 18))) hx hb hts (fun _ h9 => List.mem_cons_of_mem _ (List.mem_append_left _ (List.mem_append_left _ (List.mem_append_left _ (List.mem_append_left _ (List.mem_append_right _ h9)))))) hown hK hP 18 (Nat.lt_of_lt_of_le (Nat.le_of_ble_eq_true rfl : 18 < 182) (Nat.le_add_right _ _)) (cC_18 _ _ _ _ _) rfl 11 (by decide) (hts (.fieldLink RX6 50 "SeatsRound$Parcels" "choice" "LSeatsRound$Choice;") (List.mem_of_getElem? (i := 3) rfl)) (fun _ h9 => h9) rfl dX6_mendAll_66 ?_
      refine ux_get (D := (dC, dI)) (ci := 1) (v := .ref (ad 16)) (C := RX1) (T := TX1) (M := 9) (fs := (oCH ad (σ.1 14))) hx hb hts (fun _ h9 => List.mem_cons_of_mem _ (List.mem_append_left _ (List.mem_append_right _ h9))) hown hK hP 14 (Nat.lt_of_lt_of_le (Nat.le_of_ble_eq_true rfl : 14 < 182) (Nat.le_add_right _ _)) (cC_14 _ _ _ _ _) rfl 1 (by decide) (hts (.fieldLink RX6 74 "SeatsRound$Choice" "chosen" "[I") (List.mem_of_getElem? (i := 6) rfl)) (fun _ h9 => h9) rfl dX6_mendAll_69 ?_
      refine lv_iload hx hb dX6_mendAll_72 (lv_at hl 5 rfl) ?_
      refine ux_iald hx hb hK hP 16 0 (Nat.lt_of_lt_of_le (Nat.le_of_ble_eq_true rfl : 16 < 182) (Nat.le_add_right _ _)) (cC_16 _ _ _ _ _) rfl h dX6_mendAll_74 (fun v3 h => ?_)
      refine lv_istore (lv' := [(6, .int v3), (0, .ref (ad 18)), (1, .ref (ad (182 + 6 * b1))), (2, .int x2), (3, .int x3), (4, .int x4), (5, .int x5)]) hx hb dX6_mendAll_75 hl (by decide) rfl (fun ls hl => ?_)
      have hl := lv_sub hl [1, 2, 3, 4, 5, 6, 0] (l' := [(0, .ref (ad 18)), (1, .ref (ad (182 + 6 * b1))), (2, .int x2), (3, .int x3), (4, .int x4), (5, .int x5), (6, .int v3)]) rfl
      refine lv_aload_n hx hb dX6_mendAll_77 rfl (lv_at hl 0 rfl) ?_
      refine ux_get (D := (dC, dI)) (ci := 6) (v := .ref (ad 7)) (C := RX6) (T := TX6) (M := 12) (fs := (oPC ad (σ.1 18))) hx hb hts (fun _ h9 => List.mem_cons_of_mem _ (List.mem_append_left _ (List.mem_append_left _ (List.mem_append_left _ (List.mem_append_left _ (List.mem_append_right _ h9)))))) hown hK hP 18 (Nat.lt_of_lt_of_le (Nat.le_of_ble_eq_true rfl : 18 < 182) (Nat.le_add_right _ _)) (cC_18 _ _ _ _ _) rfl 9 (by decide) (hts (.fieldLink RX6 42 "SeatsRound$Parcels" "keepers" "LSeatsRound$Keepers;") (List.mem_of_getElem? (i := 7) rfl)) (fun _ h9 => h9) rfl dX6_mendAll_78 ?_
      refine lv_iload hx hb dX6_mendAll_81 (lv_at hl 6 rfl) ?_
      obtain ⟨r4, hf5, h⟩ := biS h
      refine ux_calli (va_runV (As := [.int v3]) (rest := []) ⟨hx, hb, hml, hown, hts⟩ (tX2_isUp l dC dI cy ad τ nb hτ σ v3 H.size r4 hf5) (cwV 1 hts gX6_mendAll_X2_isUp rfl rfl rfl (by decide +kernel) ⟨Nat.le_of_ble_eq_true rfl, Nat.le_of_ble_eq_true rfl⟩) (wp_V hK hN hP hD (va_recv hK hP (ci := 2) (q0 := 7) rfl (wG_of (Nat.lt_of_lt_of_le (Nat.le_of_ble_eq_true rfl : 7 < 182) (Nat.le_add_right _ _)) (cC_7 _ _ _ _ _)))) rfl rfl hl.1 rfl (lv_room (Nat.le_of_ble_eq_true rfl)) dX6_mendAll_83 ⟨Nat.le_of_ble_eq_true rfl, Nat.le_of_ble_eq_true rfl⟩) hD hS hA (fun H locs hP hD hS => ?_)
      refine lv_if_eq (tgt := 104) hx hb dX6_mendAll_86 (by decide) (fun hcd => ?_) (fun hcd => ?_)
      · have h := cdP hcd h
        exact w104 _ ih σ x2 x3 x4 x5 H locs ls h hP hD hS (lv_sub hl [0, 1, 2, 3, 4, 5] rfl)
      · have h := cdN hcd h
        refine lv_aload_n hx hb dX6_mendAll_89 rfl (lv_at hl 0 rfl) ?_
        refine lv_iload hx hb dX6_mendAll_90 (lv_at hl 6 rfl) ?_
        refine lv_iload_n hx hb dX6_mendAll_92 rfl (lv_at hl 3 rfl) ?_
        refine lv_iload hx hb dX6_mendAll_93 (lv_at hl 4 rfl) ?_
        obtain ⟨r6, σ7, hf8, h⟩ := bsS h
        refine ux_calli (va_runV (As := [.int v3, .int x3, .int x4]) (rest := []) ⟨hx, hb, hml, hown, hts⟩ (tX6_receives l dC dI cy ad τ nb hτ σ v3 x3 x4 H.size r6 σ7 hf8) (cwV 3 hts gX6_mendAll_X6_receives rfl rfl rfl (by decide +kernel) ⟨Nat.le_of_ble_eq_true rfl, Nat.le_of_ble_eq_true rfl⟩) (wp_V hK hN hP hD (va_recv hK hP (ci := 6) (q0 := 18) rfl (wG_of (Nat.lt_of_lt_of_le (Nat.le_of_ble_eq_true rfl : 18 < 182) (Nat.le_add_right _ _)) (cC_18 _ _ _ _ _)))) rfl rfl hl.1 rfl (lv_room (Nat.le_of_ble_eq_true rfl)) dX6_mendAll_95 ⟨Nat.le_of_ble_eq_true rfl, Nat.le_of_ble_eq_true rfl⟩) hD hS hA (fun H locs hP hD hS => ?_)
        refine lv_if_eq (tgt := 104) hx hb dX6_mendAll_98 (by decide) (fun hcd => ?_) (fun hcd => ?_)
        · have h := cdP hcd h
          exact w104 _ ih σ7 x2 x3 x4 x5 H locs ls h hP hD hS (lv_sub hl [0, 1, 2, 3, 4, 5] rfl)
        · have h := cdN hcd h
          obtain ⟨v9, ev9⟩ : ∃ y : Int32, y = x2 + 1 := ⟨_, rfl⟩
          have h := nmS h ev9
          refine lv_iinc (v := v9) (lv' := [(2, .int v9), (0, .ref (ad 18)), (1, .ref (ad (182 + 6 * b1))), (3, .int x3), (4, .int x4), (5, .int x5), (6, .int v3)]) hx hb dX6_mendAll_101 hl (k := 2) rfl (by rw [ev9]; rfl) (by decide) rfl (fun ls hl => ?_)
          have hl := lv_sub hl [1, 2, 0, 3, 4, 5, 6] (l' := [(0, .ref (ad 18)), (1, .ref (ad (182 + 6 * b1))), (2, .int v9), (3, .int x3), (4, .int x4), (5, .int x5), (6, .int v3)]) rfl
          exact w104 _ ih σ7 v9 x3 x4 x5 H locs ls h hP hD hS (lv_sub hl [0, 1, 2, 3, 4, 5] rfl)
  have w4 : ∀ (n : Nat), ∀ (σ : S2) (x2 : Int32) (x3 : Int32) (H : Heap) (locs : List Loc) (ls : Array Slot), fX6_mendAll_4 τ b1 n σ x2 x3 = some (r0, σ9) → va_P (dC, dI) vwCl (wG (cC cy ad τ) ad (182 + 6 * nb) σ) H → va_D A (wG (cC cy ad τ) ad (182 + 6 * nb) σ) → va_S A s.heap H locs → lv_has ls 7 [(0, .ref (ad 18)), (1, .ref (ad (182 + 6 * b1))), (2, .int x2), (3, .int x3)] → W p l e (headSpec wsX6_mendAll ({ frames := 6, cells := 0, slots := 0, locals := 136 })).room s m (#[.ref (ad 18), .ref (ad (182 + 6 * b1))]) below meth c H locs 0 0 (MQ below (va_Qi (fun (r : Int32) (_ : Unit) => r = r0) (fun (_ : Unit) t => wAt (dC, dI) A (wG (cC cy ad τ) ad (182 + 6 * nb) σ9) t) A) (#[.ref (ad 18), .ref (ad (182 + 6 * b1))]) s 0 0 A) (F0 m 4 ls []) := by
    intro n
    induction n with
    | zero => intro σ x2 x3 H locs ls h; cases h
    | succ n ih =>
    intro σ x2 x3 H locs ls h hP hD hS hl
    unfold fX6_mendAll_4 at h
    refine lv_iload_n hx hb dX6_mendAll_4 rfl (lv_at hl 3 rfl) ?_
    refine lv_aload_n hx hb dX6_mendAll_5 rfl (lv_at hl 0 rfl) ?_
    refine ux_get (D := (dC, dI)) (ci := 6) (v := .ref (ad 3)) (C := RX6) (T := TX6) (M := 12) (fs := (oPC ad (σ.1 18))) hx hb hts (fun _ h9 => List.mem_cons_of_mem _ (List.mem_append_left _ (List.mem_append_left _ (List.mem_append_left _ (List.mem_append_left _ (List.mem_append_right _ h9)))))) hown hK hP 18 (Nat.lt_of_lt_of_le (Nat.le_of_ble_eq_true rfl : 18 < 182) (Nat.le_add_right _ _)) (cC_18 _ _ _ _ _) rfl 10 (by decide) (hts (.fieldLink RX6 46 "SeatsRound$Parcels" "nameList" "LSeatsRound$NameList;") (List.mem_of_getElem? (i := 1) rfl)) (fun _ h9 => h9) rfl dX6_mendAll_6 ?_
    refine ux_get (D := (dC, dI)) (ci := 4) (v := .int (σ.1 3 3)) (C := RX4) (T := TX4) (M := 4) (fs := (oNL ad (σ.1 3))) hx hb hts (fun _ h9 => List.mem_cons_of_mem _ (List.mem_append_left _ (List.mem_append_left _ (List.mem_append_left _ (List.mem_append_right _ h9))))) hown hK hP 3 (Nat.lt_of_lt_of_le (Nat.le_of_ble_eq_true rfl : 3 < 182) (Nat.le_add_right _ _)) (cC_3 _ _ _ _ _) rfl 3 (by decide) (hts (.fieldLink RX6 123 "SeatsRound$NameList" "count" "I") (List.mem_of_getElem? (i := 2) rfl)) (fun _ h9 => h9) rfl dX6_mendAll_9 ?_
    refine lv_icmp_ge (tgt := 116) hx hb dX6_mendAll_12 (by decide) (fun hcd => ?_) (fun hcd => ?_)
    · have h := cdP hcd h
      refine lv_iload_n hx hb dX6_mendAll_116 rfl (lv_at hl 2 rfl) ?_
      exact ux_iret hx hb hr h hP hD hS hlocks dX6_mendAll_117
    · have h := cdN hcd h
      refine lv_aload_n hx hb dX6_mendAll_15 rfl (lv_at hl 0 rfl) ?_
      refine lv_iload_n hx hb dX6_mendAll_16 rfl (lv_at hl 3 rfl) ?_
      obtain ⟨r10, hf11, h⟩ := biS h
      refine ux_calli (va_runV (As := [.int x3]) (rest := []) ⟨hx, hb, hml, hown, hts⟩ (tX6_greatestAnywhere l dC dI cy ad τ nb hτ σ x3 H.size r10 hf11) (cwV 1 hts gX6_mendAll_X6_greatestAnywhere rfl rfl rfl (by decide +kernel) ⟨Nat.le_of_ble_eq_true rfl, Nat.le_of_ble_eq_true rfl⟩) (wp_V hK hN hP hD (va_recv hK hP (ci := 6) (q0 := 18) rfl (wG_of (Nat.lt_of_lt_of_le (Nat.le_of_ble_eq_true rfl : 18 < 182) (Nat.le_add_right _ _)) (cC_18 _ _ _ _ _)))) rfl rfl hl.1 rfl (lv_room (Nat.le_of_ble_eq_true rfl)) dX6_mendAll_17 ⟨Nat.le_of_ble_eq_true rfl, Nat.le_of_ble_eq_true rfl⟩) hD hS hA (fun H locs hP hD hS => ?_)
      refine lv_istore (lv' := [(4, .int r10), (0, .ref (ad 18)), (1, .ref (ad (182 + 6 * b1))), (2, .int x2), (3, .int x3)]) hx hb dX6_mendAll_20 hl (by decide) rfl (fun ls hl => ?_)
      have hl := lv_sub hl [1, 2, 3, 4, 0] (l' := [(0, .ref (ad 18)), (1, .ref (ad (182 + 6 * b1))), (2, .int x2), (3, .int x3), (4, .int r10)]) rfl
      refine lv_iload hx hb dX6_mendAll_22 (lv_at hl 4 rfl) ?_
      refine lv_if_ne (tgt := 30) hx hb dX6_mendAll_24 (by decide) (fun hcd => ?_) (fun hcd => ?_)
      · have h := cdN hcd h
        refine lv_aload_n hx hb dX6_mendAll_30 rfl (lv_at hl 0 rfl) ?_
        refine ux_get (D := (dC, dI)) (ci := 6) (v := .ref (ad 14)) (C := RX6) (T := TX6) (M := 12) (fs := (oPC ad (σ.1 18))) hx hb hts (fun _ h9 => List.mem_cons_of_mem _ (List.mem_append_left _ (List.mem_append_left _ (List.mem_append_left _ (List.mem_append_left _ (List.mem_append_right _ h9)))))) hown hK hP 18 (Nat.lt_of_lt_of_le (Nat.le_of_ble_eq_true rfl : 18 < 182) (Nat.le_add_right _ _)) (cC_18 _ _ _ _ _) rfl 11 (by decide) (hts (.fieldLink RX6 50 "SeatsRound$Parcels" "choice" "LSeatsRound$Choice;") (List.mem_of_getElem? (i := 3) rfl)) (fun _ h9 => h9) rfl dX6_mendAll_31 ?_
        refine lv_aload_n hx hb dX6_mendAll_34 rfl (lv_at hl 1 rfl) ?_
        refine lv_aload_n hx hb dX6_mendAll_35 rfl (lv_at hl 0 rfl) ?_
        refine ux_get (D := (dC, dI)) (ci := 6) (v := .ref (ad 3)) (C := RX6) (T := TX6) (M := 12) (fs := (oPC ad (σ.1 18))) hx hb hts (fun _ h9 => List.mem_cons_of_mem _ (List.mem_append_left _ (List.mem_append_left _ (List.mem_append_left _ (List.mem_append_left _ (List.mem_append_right _ h9)))))) hown hK hP 18 (Nat.lt_of_lt_of_le (Nat.le_of_ble_eq_true rfl : 18 < 182) (Nat.le_add_right _ _)) (cC_18 _ _ _ _ _) rfl 10 (by decide) (hts (.fieldLink RX6 46 "SeatsRound$Parcels" "nameList" "LSeatsRound$NameList;") (List.mem_of_getElem? (i := 1) rfl)) (fun _ h9 => h9) rfl dX6_mendAll_36 ?_
        refine lv_iload_n hx hb dX6_mendAll_39 rfl (lv_at hl 3 rfl) ?_
        refine lv_aload_n hx hb dX6_mendAll_40 rfl (lv_at hl 1 rfl) ?_
        refine ux_get (D := (dC, dI)) (ci := 8) (v := .int (σ.1 (182 + 6 * b1) 1)) (C := RX8) (T := TX8) (M := 13) (fs := (oTB ad (182 + 6 * b1) (σ.1 (182 + 6 * b1)))) hx hb hts (fun _ h9 => List.mem_cons_of_mem _ (List.mem_append_left _ (List.mem_append_left _ (List.mem_append_right _ h9)))) hown hK hP (182 + 6 * b1) (by omega) (cC_t0 _ _ _ _ _ b1) rfl 1 (by decide) (hts (.fieldLink RX6 54 "SeatsRound$Table" "turn" "I") (List.mem_of_getElem? (i := 4) rfl)) (fun _ h9 => h9) rfl dX6_mendAll_41 ?_
        change W _ _ _ _ _ _ _ _ _ _ _ _ _ _ _ (F0 m 44 ls [.int (σ.1 (182 + 6 * b1) 1), .int x3, .ref (ad 3), .ref (ad (182 + 6 * b1)), .ref (ad 14)])
        obtain ⟨r12, hf13, h⟩ := biS h
        refine ux_calli (va_runV (As := [.int x3, .int (σ.1 (182 + 6 * b1) 1)]) (rest := [.ref (ad (182 + 6 * b1)), .ref (ad 14)]) ⟨hx, hb, hml, hown, hts⟩ (tX4_placeOf l dC dI cy ad τ nb hτ σ x3 (σ.1 (182 + 6 * b1) 1) H.size r12 hf13) (cwV 2 hts gX6_mendAll_X4_placeOf rfl rfl rfl (by decide +kernel) ⟨Nat.le_of_ble_eq_true rfl, Nat.le_of_ble_eq_true rfl⟩) (wp_V hK hN hP hD (va_recv hK hP (ci := 4) (q0 := 3) rfl (wG_of (Nat.lt_of_lt_of_le (Nat.le_of_ble_eq_true rfl : 3 < 182) (Nat.le_add_right _ _)) (cC_3 _ _ _ _ _)))) rfl rfl hl.1 rfl (lv_room (Nat.le_of_ble_eq_true rfl)) dX6_mendAll_44 ⟨Nat.le_of_ble_eq_true rfl, Nat.le_of_ble_eq_true rfl⟩) hD hS hA (fun H locs hP hD hS => ?_)
        obtain ⟨r14, σ15, hf16, h⟩ := bsS h
        refine ux_callv (va_runV (As := [.ref (ad (182 + 6 * b1)), .int r12]) (rest := []) ⟨hx, hb, hml, hown, hts⟩ (tX1_choose l dC dI cy ad τ nb hτ b1 (by omega) σ r12 H.size r14 σ15 hf16) (cwV 2 hts gX6_mendAll_X1_choose rfl rfl rfl (by decide +kernel) ⟨Nat.le_of_ble_eq_true rfl, Nat.le_of_ble_eq_true rfl⟩) (wp_V hK hN hP hD (va_recv hK hP (ci := 1) (q0 := 14) rfl (wG_of (Nat.lt_of_lt_of_le (Nat.le_of_ble_eq_true rfl : 14 < 182) (Nat.le_add_right _ _)) (cC_14 _ _ _ _ _)))) rfl rfl hl.1 rfl (lv_room (Nat.le_of_ble_eq_true rfl)) dX6_mendAll_47 ⟨Nat.le_of_ble_eq_true rfl, Nat.le_of_ble_eq_true rfl⟩) hD hS hA (fun H locs hP hD hS => ?_)
        refine lv_iconst (v := 0) hx hb dX6_mendAll_50 (by decide) ?_
        refine lv_istore (lv' := [(5, .int 0), (0, .ref (ad 18)), (1, .ref (ad (182 + 6 * b1))), (2, .int x2), (3, .int x3), (4, .int r10)]) hx hb dX6_mendAll_51 hl (by decide) rfl (fun ls hl => ?_)
        have hl := lv_sub hl [1, 2, 3, 4, 5, 0] (l' := [(0, .ref (ad 18)), (1, .ref (ad (182 + 6 * b1))), (2, .int x2), (3, .int x3), (4, .int r10), (5, .int 0)]) rfl
        exact w53 _ ih FU σ15 x2 x3 r10 0 H locs ls h hP hD hS hl
      · have h := cdP hcd h
        refine lv_goto (tgt := 110) hx hb dX6_mendAll_27 (by decide) ?_
        exact w110 _ ih σ x2 x3 H locs ls h hP hD hS (lv_sub hl [0, 1, 2, 3] rfl)
  have w0 : ∀ (σ : S2)  (H : Heap) (locs : List Loc) (ls : Array Slot), fX6_mendAll_0 τ b1 σ = some (r0, σ9) → va_P (dC, dI) vwCl (wG (cC cy ad τ) ad (182 + 6 * nb) σ) H → va_D A (wG (cC cy ad τ) ad (182 + 6 * nb) σ) → va_S A s.heap H locs → lv_has ls 7 [(0, .ref (ad 18)), (1, .ref (ad (182 + 6 * b1)))] → W p l e (headSpec wsX6_mendAll ({ frames := 6, cells := 0, slots := 0, locals := 136 })).room s m (#[.ref (ad 18), .ref (ad (182 + 6 * b1))]) below meth c H locs 0 0 (MQ below (va_Qi (fun (r : Int32) (_ : Unit) => r = r0) (fun (_ : Unit) t => wAt (dC, dI) A (wG (cC cy ad τ) ad (182 + 6 * nb) σ9) t) A) (#[.ref (ad 18), .ref (ad (182 + 6 * b1))]) s 0 0 A) (F0 m 0 ls []) := by
    intro σ H locs ls h hP hD hS hl
    unfold fX6_mendAll_0 at h
    refine lv_iconst (v := 0) hx hb dX6_mendAll_0 (by decide) ?_
    refine lv_istore_n (lv' := [(2, .int 0), (0, .ref (ad 18)), (1, .ref (ad (182 + 6 * b1)))]) hx hb dX6_mendAll_1 rfl hl (by decide) rfl (fun ls hl => ?_)
    have hl := lv_sub hl [1, 2, 0] (l' := [(0, .ref (ad 18)), (1, .ref (ad (182 + 6 * b1))), (2, .int 0)]) rfl
    refine lv_iconst (v := 0) hx hb dX6_mendAll_2 (by decide) ?_
    refine lv_istore_n (lv' := [(3, .int 0), (0, .ref (ad 18)), (1, .ref (ad (182 + 6 * b1))), (2, .int 0)]) hx hb dX6_mendAll_3 rfl hl (by decide) rfl (fun ls hl => ?_)
    have hl := lv_sub hl [1, 2, 3, 0] (l' := [(0, .ref (ad 18)), (1, .ref (ad (182 + 6 * b1))), (2, .int 0), (3, .int 0)]) rfl
    exact w4 FU σ 0 0 H locs ls h hP hD hS hl
  intro H locs ls h hP hD hS hl
  exact w0 σ H locs ls h hP hD hS (lv_sub hl [0, 1] rfl)

set_option maxHeartbeats 4000000 in
set_option maxRecDepth 100000 in
theorem tX6_grow (l : Launch) (dC : Nat → ClassId) (dI : Nat → Nat → Nat) (cy : Nat → ClassId) (ad : Nat → Nat) (τ nb : Nat) (hτ : τ < nb) (c1 n1 : Nat) (hc1 : c1 < 182 + 6 * nb) (hs1 : ∀ (g : Nat → Int32) (q : Nat → Int64), cC cy ad τ c1 g q = .inl (cy 0, n1, .inl g)) (σ : S2) (a2 : Int32) (sz : Nat) (r0 : Unit) (σ9 : S2) (h : fX6_grow τ c1 n1 σ a2 = some (r0, σ9)) : Met l yX6_grow wsX6_grow ({ frames := 2, cells := 0, slots := 0, locals := 46 }) (va_Pc [.ref (ad 18), .ref (ad c1), .int a2] (wPre (dC, dI) cy (wG (cC cy ad τ) ad (182 + 6 * nb) σ) sz)) (va_Qv (fun (_ : Unit) => True) (fun (_ : Unit) t => wAt (dC, dI) (va_A (wG (cC cy ad τ) ad (182 + 6 * nb) σ) sz) (wG (cC cy ad τ) ad (182 + 6 * nb) σ9) t) (va_A (wG (cC cy ad τ) ad (182 + 6 * nb) σ) sz)) 0 0 (va_A (wG (cC cy ad τ) ad (182 + 6 * nb) σ) sz) := by
  refine Met.ofW (cc := cX6_grow) (maxL := 4) (ret := none) (by decide) rfl ?_
  intro p e s m args below meth c s₁ B hml hv
  obtain ⟨rfl, hsz, hP, hK, hD0, hN⟩ := hv
  have hx := B.exec
  have hb := B.bytes
  have hr := B.returns
  have hts := atoms_spec (ws := wsX6_grow) B.pre
  have hown : s.vm.findClass RX6 = some m.cls := findClass_of_methodNamed B.named
  have hlocks := B.notSynchronized
  subst hsz
  have hD := hD0.self (sz := s.heap.size)
  generalize hAe : va_A (wG (cC cy ad τ) ad (182 + 6 * nb) σ) s.heap.size = A at hD ⊢
  have hA : ∀ q : Nat, s.heap.size ≤ q → A q := fun q h => by rw [← hAe]; exact Or.inr h
  have hS : va_S A s.heap s.heap [] := va_S.rf
  have hl := lv_entry ([.ref (ad 18), .ref (ad c1), .int a2]) (n := 4) (Nat.le_of_ble_eq_true rfl)
  rw [lg_entry_eq]
  generalize (lg_sl ([.ref (ad 18), .ref (ad c1), .int a2]) ++ List.replicate (4 - (lg_sl ([.ref (ad 18), .ref (ad c1), .int a2])).length) Slot.unset).toArray = ls at hl ⊢
  have hl : lv_has ls 4 [(0, .ref (ad 18)), (1, .ref (ad c1)), (2, .int a2)] := hl
  unfold fX6_grow at h
  clear hAe hD0
  suffices HH : ∀ (H : Heap) (locs : List Loc) (ls : Array Slot), fX6_grow_0 τ c1 n1 σ a2 = some (r0, σ9) → va_P (dC, dI) vwCl (wG (cC cy ad τ) ad (182 + 6 * nb) σ) H → va_D A (wG (cC cy ad τ) ad (182 + 6 * nb) σ) → va_S A s.heap H locs → lv_has ls 4 [(0, .ref (ad 18)), (1, .ref (ad c1)), (2, .int a2)] → W p l e (headSpec wsX6_grow ({ frames := 2, cells := 0, slots := 0, locals := 46 })).room s m (#[.ref (ad 18), .ref (ad c1), .int a2]) below meth c H locs 0 0 (MQ below (va_Qv (fun (_ : Unit) => True) (fun (_ : Unit) t => wAt (dC, dI) A (wG (cC cy ad τ) ad (182 + 6 * nb) σ9) t) A) (#[.ref (ad 18), .ref (ad c1), .int a2]) s 0 0 A) (F0 m 0 ls []) from HH s.heap [] ls h hP hD hS hl
  have w51 : ∀ (n : Nat), ∀ (σ : S2) (x3 : Int32) (H : Heap) (locs : List Loc) (ls : Array Slot), fX6_grow_51 τ c1 n1 n σ x3 = some (r0, σ9) → va_P (dC, dI) vwCl (wG (cC cy ad τ) ad (182 + 6 * nb) σ) H → va_D A (wG (cC cy ad τ) ad (182 + 6 * nb) σ) → va_S A s.heap H locs → lv_has ls 4 [(1, .ref (ad c1)), (3, .int x3)] → W p l e (headSpec wsX6_grow ({ frames := 2, cells := 0, slots := 0, locals := 46 })).room s m (#[.ref (ad 18), .ref (ad c1), .int a2]) below meth c H locs 0 0 (MQ below (va_Qv (fun (_ : Unit) => True) (fun (_ : Unit) t => wAt (dC, dI) A (wG (cC cy ad τ) ad (182 + 6 * nb) σ9) t) A) (#[.ref (ad 18), .ref (ad c1), .int a2]) s 0 0 A) (F0 m 51 ls []) := by
    intro n
    induction n with
    | zero => intro σ x3 H locs ls h; cases h
    | succ n ih =>
    intro σ x3 H locs ls h hP hD hS hl
    unfold fX6_grow_51 at h
    refine lv_iload_n hx hb dX6_grow_51 rfl (lv_at hl 1 rfl) ?_
    refine lv_iconst (v := 1) hx hb dX6_grow_52 (by decide) ?_
    refine lv_icmp_lt (tgt := 78) hx hb dX6_grow_53 (by decide) (fun hcd => ?_) (fun hcd => ?_)
    · have h := cdP hcd h
      exact ux_vret hx hb hr h hP hD hS hlocks dX6_grow_78
    · have h := cdN hcd h
      refine lv_aload_n hx hb dX6_grow_56 rfl (lv_at hl 0 rfl) ?_
      refine lv_iload_n hx hb dX6_grow_57 rfl (lv_at hl 1 rfl) ?_
      refine lv_aload_n hx hb dX6_grow_58 rfl (lv_at hl 0 rfl) ?_
      refine lv_iconst (v := 2) hx hb dX6_grow_59 (by decide) ?_
      refine lv_iload_n hx hb dX6_grow_60 rfl (lv_at hl 1 rfl) ?_
      refine lv_imul hx hb dX6_grow_61 ?_
      refine ux_iald hx hb hK hP c1 0 hc1 (hs1 _ _) rfl h dX6_grow_62 (fun v1 h => ?_)
      refine lv_aload_n hx hb dX6_grow_63 rfl (lv_at hl 0 rfl) ?_
      refine lv_iconst (v := 2) hx hb dX6_grow_64 (by decide) ?_
      refine lv_iload_n hx hb dX6_grow_65 rfl (lv_at hl 1 rfl) ?_
      refine lv_imul hx hb dX6_grow_66 ?_
      refine lv_iconst (v := 1) hx hb dX6_grow_67 (by decide) ?_
      refine lv_iadd hx hb dX6_grow_68 ?_
      refine ux_iald hx hb hK hP c1 0 hc1 (hs1 _ _) rfl h dX6_grow_69 (fun v2 h => ?_)
      refine lv_iadd hx hb dX6_grow_70 ?_
      refine ux_iast hx hb hK hP hD hS c1 0 hc1 (fun _ => (hs1 _ _)) rfl h dX6_grow_71 (fun σ3 H locs h hP hD hS => ?_)
      obtain ⟨v4, ev4⟩ : ∃ y : Int32, y = x3 + (-1) := ⟨_, rfl⟩
      have h := nmS h ev4
      refine lv_iinc (v := v4) (lv' := [(3, .int v4), (1, .ref (ad c1))]) hx hb dX6_grow_72 hl (k := 1) rfl (by rw [ev4]; rfl) (by decide) rfl (fun ls hl => ?_)
      have hl := lv_sub hl [1, 0] (l' := [(1, .ref (ad c1)), (3, .int v4)]) rfl
      refine lv_goto (tgt := 51) hx hb dX6_grow_75 (by decide) ?_
      exact ih σ3 v4 H locs ls h hP hD hS hl
  have w7 : ∀ (n : Nat), ∀ (σ : S2) (x2 : Int32) (x3 : Int32) (H : Heap) (locs : List Loc) (ls : Array Slot), fX6_grow_7 τ c1 n1 n σ x2 x3 = some (r0, σ9) → va_P (dC, dI) vwCl (wG (cC cy ad τ) ad (182 + 6 * nb) σ) H → va_D A (wG (cC cy ad τ) ad (182 + 6 * nb) σ) → va_S A s.heap H locs → lv_has ls 4 [(0, .ref (ad 18)), (1, .ref (ad c1)), (2, .int x2), (3, .int x3)] → W p l e (headSpec wsX6_grow ({ frames := 2, cells := 0, slots := 0, locals := 46 })).room s m (#[.ref (ad 18), .ref (ad c1), .int a2]) below meth c H locs 0 0 (MQ below (va_Qv (fun (_ : Unit) => True) (fun (_ : Unit) t => wAt (dC, dI) A (wG (cC cy ad τ) ad (182 + 6 * nb) σ9) t) A) (#[.ref (ad 18), .ref (ad c1), .int a2]) s 0 0 A) (F0 m 7 ls []) := by
    intro n
    induction n with
    | zero => intro σ x2 x3 H locs ls h; cases h
    | succ n ih =>
    intro σ x2 x3 H locs ls h hP hD hS hl
    unfold fX6_grow_7 at h
    refine lv_iload_n hx hb dX6_grow_7 rfl (lv_at hl 3 rfl) ?_
    refine lv_aload_n hx hb dX6_grow_8 rfl (lv_at hl 0 rfl) ?_
    refine ux_get (D := (dC, dI)) (ci := 6) (v := .ref (ad 3)) (C := RX6) (T := TX6) (M := 12) (fs := (oPC ad (σ.1 18))) hx hb hts (fun _ h9 => List.mem_cons_of_mem _ (List.mem_append_left _ (List.mem_append_right _ h9))) hown hK hP 18 (Nat.lt_of_lt_of_le (Nat.le_of_ble_eq_true rfl : 18 < 182) (Nat.le_add_right _ _)) (cC_18 _ _ _ _ _) rfl 10 (by decide) (hts (.fieldLink RX6 46 "SeatsRound$Parcels" "nameList" "LSeatsRound$NameList;") (List.mem_of_getElem? (i := 1) rfl)) (fun _ h9 => h9) rfl dX6_grow_9 ?_
    refine ux_get (D := (dC, dI)) (ci := 4) (v := .int (σ.1 3 3)) (C := RX4) (T := TX4) (M := 4) (fs := (oNL ad (σ.1 3))) hx hb hts (fun _ h9 => List.mem_cons_of_mem _ (List.mem_append_right _ h9)) hown hK hP 3 (Nat.lt_of_lt_of_le (Nat.le_of_ble_eq_true rfl : 3 < 182) (Nat.le_add_right _ _)) (cC_3 _ _ _ _ _) rfl 3 (by decide) (hts (.fieldLink RX6 123 "SeatsRound$NameList" "count" "I") (List.mem_of_getElem? (i := 2) rfl)) (fun _ h9 => h9) rfl dX6_grow_12 ?_
    refine lv_icmp_ge (tgt := 48) hx hb dX6_grow_15 (by decide) (fun hcd => ?_) (fun hcd => ?_)
    · have h := cdP hcd h
      refine lv_bipush (v := 7) hx hb dX6_grow_48 (by decide) ?_
      refine lv_istore_n (lv' := [(3, .int 7), (0, .ref (ad 18)), (1, .ref (ad c1)), (2, .int x2)]) hx hb dX6_grow_50 rfl hl (by decide) rfl (fun ls hl => ?_)
      have hl := lv_sub hl [1, 2, 3, 0] (l' := [(0, .ref (ad 18)), (1, .ref (ad c1)), (2, .int x2), (3, .int 7)]) rfl
      exact w51 FU σ 7 H locs ls h hP hD hS (lv_sub hl [1, 3] rfl)
    · have h := cdN hcd h
      refine lv_aload_n hx hb dX6_grow_18 rfl (lv_at hl 1 rfl) ?_
      refine lv_bipush (v := 8) hx hb dX6_grow_19 (by decide) ?_
      refine lv_iload_n hx hb dX6_grow_21 rfl (lv_at hl 3 rfl) ?_
      refine lv_bipush (v := 8) hx hb dX6_grow_22 (by decide) ?_
      obtain ⟨hz5, h⟩ := dzS h
      refine lv_irem hx hb dX6_grow_24 hz5 ?_
      refine lv_iadd hx hb dX6_grow_25 ?_
      refine lv_dup2_11 hx hb dX6_grow_26 rfl rfl ?_
      refine ux_iald hx hb hK hP c1 0 hc1 (hs1 _ _) rfl h dX6_grow_27 (fun v6 h => ?_)
      refine lv_iload_n hx hb dX6_grow_28 rfl (lv_at hl 3 rfl) ?_
      refine lv_iconst (v := 1) hx hb dX6_grow_29 (by decide) ?_
      refine lv_iadd hx hb dX6_grow_30 ?_
      refine lv_aload_n hx hb dX6_grow_31 rfl (lv_at hl 0 rfl) ?_
      refine ux_get (D := (dC, dI)) (ci := 6) (v := .ref (ad 19)) (C := RX6) (T := TX6) (M := 12) (fs := (oPC ad (σ.1 18))) hx hb hts (fun _ h9 => List.mem_cons_of_mem _ (List.mem_append_left _ (List.mem_append_right _ h9))) hown hK hP 18 (Nat.lt_of_lt_of_le (Nat.le_of_ble_eq_true rfl : 18 < 182) (Nat.le_add_right _ _)) (cC_18 _ _ _ _ _) rfl 0 (by decide) (hts (.fieldLink RX6 11 "SeatsRound$Parcels" "version" "[[I") (List.mem_of_getElem? (i := 3) rfl)) (fun _ h9 => h9) rfl dX6_grow_32 ?_
      refine lv_iload_n hx hb dX6_grow_35 rfl (lv_at hl 2 rfl) ?_
      obtain ⟨hii7, h⟩ := ckS h
      have hri7 := vp_lt hii7
      refine vz_aldg hx hb hK hP 19 6 (wG_of (Nat.lt_of_lt_of_le (Nat.le_of_ble_eq_true rfl : 19 < 182) (Nat.le_add_right _ _)) (cC_19 _ _ _ _ _)) rfl hii7 (if_pos hri7) dX6_grow_36 ?_
      refine lv_iload_n hx hb dX6_grow_37 rfl (lv_at hl 3 rfl) ?_
      refine ux_iald hx hb hK hP (84 + Int32.toNatClampNeg x2) 0 (by omega) (cC_r1 _ _ _ _ _ _ (by omega)) rfl h dX6_grow_38 (fun v8 h => ?_)
      refine lv_imul hx hb dX6_grow_39 ?_
      refine lv_iadd hx hb dX6_grow_40 ?_
      refine ux_iast hx hb hK hP hD hS c1 0 hc1 (fun _ => (hs1 _ _)) rfl h dX6_grow_41 (fun σ9 H locs h hP hD hS => ?_)
      obtain ⟨v10, ev10⟩ : ∃ y : Int32, y = x3 + 1 := ⟨_, rfl⟩
      have h := nmS h ev10
      refine lv_iinc (v := v10) (lv' := [(3, .int v10), (0, .ref (ad 18)), (1, .ref (ad c1)), (2, .int x2)]) hx hb dX6_grow_42 hl (k := 3) rfl (by rw [ev10]; rfl) (by decide) rfl (fun ls hl => ?_)
      have hl := lv_sub hl [1, 2, 3, 0] (l' := [(0, .ref (ad 18)), (1, .ref (ad c1)), (2, .int x2), (3, .int v10)]) rfl
      refine lv_goto (tgt := 7) hx hb dX6_grow_45 (by decide) ?_
      exact ih σ9 x2 v10 H locs ls h hP hD hS hl
  have w0 : ∀ (σ : S2) (x2 : Int32) (H : Heap) (locs : List Loc) (ls : Array Slot), fX6_grow_0 τ c1 n1 σ x2 = some (r0, σ9) → va_P (dC, dI) vwCl (wG (cC cy ad τ) ad (182 + 6 * nb) σ) H → va_D A (wG (cC cy ad τ) ad (182 + 6 * nb) σ) → va_S A s.heap H locs → lv_has ls 4 [(0, .ref (ad 18)), (1, .ref (ad c1)), (2, .int x2)] → W p l e (headSpec wsX6_grow ({ frames := 2, cells := 0, slots := 0, locals := 46 })).room s m (#[.ref (ad 18), .ref (ad c1), .int a2]) below meth c H locs 0 0 (MQ below (va_Qv (fun (_ : Unit) => True) (fun (_ : Unit) t => wAt (dC, dI) A (wG (cC cy ad τ) ad (182 + 6 * nb) σ9) t) A) (#[.ref (ad 18), .ref (ad c1), .int a2]) s 0 0 A) (F0 m 0 ls []) := by
    intro σ x2 H locs ls h hP hD hS hl
    unfold fX6_grow_0 at h
    refine lv_aload_n hx hb dX6_grow_0 rfl (lv_at hl 1 rfl) ?_
    refine lv_iconst (v := 0) hx hb dX6_grow_1 (by decide) ?_
    obtain ⟨r11, σ12, hf13, h⟩ := bsS h
    refine ux_callv (va_runS (As := [.ref (ad c1), .int 0]) (rest := []) ⟨hx, hb, hml, hown, hts⟩ (tJ7_fill_53178 l dC dI cy ad τ nb hτ c1 n1 hc1 (fun _ _ => (hs1 _ _)) σ 0 H.size r11 σ12 hf13) (va_cwS 2 hts gX6_grow_J7_fill_53178 rfl rfl rfl (by decide +kernel) ⟨Nat.le_of_ble_eq_true rfl, Nat.le_of_ble_eq_true rfl⟩) (wp_S hK hN hP hD) rfl rfl hl.1 rfl (lv_room (Nat.le_of_ble_eq_true rfl)) dX6_grow_2 ⟨Nat.le_of_ble_eq_true rfl, Nat.le_of_ble_eq_true rfl⟩) hD hS hA (fun H locs hP hD hS => ?_)
    refine lv_iconst (v := 0) hx hb dX6_grow_5 (by decide) ?_
    refine lv_istore_n (lv' := [(3, .int 0), (0, .ref (ad 18)), (1, .ref (ad c1)), (2, .int x2)]) hx hb dX6_grow_6 rfl hl (by decide) rfl (fun ls hl => ?_)
    have hl := lv_sub hl [1, 2, 3, 0] (l' := [(0, .ref (ad 18)), (1, .ref (ad c1)), (2, .int x2), (3, .int 0)]) rfl
    exact w7 FU σ12 x2 0 H locs ls h hP hD hS hl
  intro H locs ls h hP hD hS hl
  exact w0 σ a2 H locs ls h hP hD hS (lv_sub hl [0, 1, 2] rfl)

set_option maxHeartbeats 4000000 in
set_option maxRecDepth 100000 in
theorem tX6_compare (l : Launch) (dC : Nat → ClassId) (dI : Nat → Nat → Nat) (cy : Nat → ClassId) (ad : Nat → Nat) (τ nb : Nat) (hτ : τ < nb) (σ : S2) (a1 : Int32) (a2 : Int32) (sz : Nat) (r0 : Unit) (σ9 : S2) (h : fX6_compare τ σ a1 a2 = some (r0, σ9)) : Met l yX6_compare wsX6_compare ({ frames := 3, cells := 0, slots := 0, locals := 69 }) (va_Pc [.ref (ad 18), .int a1, .int a2] (wPre (dC, dI) cy (wG (cC cy ad τ) ad (182 + 6 * nb) σ) sz)) (va_Qv (fun (_ : Unit) => True) (fun (_ : Unit) t => wAt (dC, dI) (va_A (wG (cC cy ad τ) ad (182 + 6 * nb) σ) sz) (wG (cC cy ad τ) ad (182 + 6 * nb) σ9) t) (va_A (wG (cC cy ad τ) ad (182 + 6 * nb) σ) sz)) 0 0 (va_A (wG (cC cy ad τ) ad (182 + 6 * nb) σ) sz) := by
  refine Met.ofW (cc := cX6_compare) (maxL := 3) (ret := none) (by decide) rfl ?_
  intro p e s m args below meth c s₁ B hml hv
  obtain ⟨rfl, hsz, hP, hK, hD0, hN⟩ := hv
  have hx := B.exec
  have hb := B.bytes
  have hr := B.returns
  have hts := atoms_spec (ws := wsX6_compare) B.pre
  have hown : s.vm.findClass RX6 = some m.cls := findClass_of_methodNamed B.named
  have hlocks := B.notSynchronized
  subst hsz
  have hD := hD0.self (sz := s.heap.size)
  generalize hAe : va_A (wG (cC cy ad τ) ad (182 + 6 * nb) σ) s.heap.size = A at hD ⊢
  have hA : ∀ q : Nat, s.heap.size ≤ q → A q := fun q h => by rw [← hAe]; exact Or.inr h
  have hS : va_S A s.heap s.heap [] := va_S.rf
  have hl := lv_entry ([.ref (ad 18), .int a1, .int a2]) (n := 3) (Nat.le_of_ble_eq_true rfl)
  rw [lg_entry_eq]
  generalize (lg_sl ([.ref (ad 18), .int a1, .int a2]) ++ List.replicate (3 - (lg_sl ([.ref (ad 18), .int a1, .int a2])).length) Slot.unset).toArray = ls at hl ⊢
  have hl : lv_has ls 3 [(0, .ref (ad 18)), (1, .int a1), (2, .int a2)] := hl
  unfold fX6_compare at h
  clear hAe hD0
  suffices HH : ∀ (H : Heap) (locs : List Loc) (ls : Array Slot), fX6_compare_0 τ σ a1 a2 = some (r0, σ9) → va_P (dC, dI) vwCl (wG (cC cy ad τ) ad (182 + 6 * nb) σ) H → va_D A (wG (cC cy ad τ) ad (182 + 6 * nb) σ) → va_S A s.heap H locs → lv_has ls 3 [(0, .ref (ad 18)), (1, .int a1), (2, .int a2)] → W p l e (headSpec wsX6_compare ({ frames := 3, cells := 0, slots := 0, locals := 69 })).room s m (#[.ref (ad 18), .int a1, .int a2]) below meth c H locs 0 0 (MQ below (va_Qv (fun (_ : Unit) => True) (fun (_ : Unit) t => wAt (dC, dI) A (wG (cC cy ad τ) ad (182 + 6 * nb) σ9) t) A) (#[.ref (ad 18), .int a1, .int a2]) s 0 0 A) (F0 m 0 ls []) from HH s.heap [] ls h hP hD hS hl
  have w0 : ∀ (σ : S2) (x1 : Int32) (x2 : Int32) (H : Heap) (locs : List Loc) (ls : Array Slot), fX6_compare_0 τ σ x1 x2 = some (r0, σ9) → va_P (dC, dI) vwCl (wG (cC cy ad τ) ad (182 + 6 * nb) σ) H → va_D A (wG (cC cy ad τ) ad (182 + 6 * nb) σ) → va_S A s.heap H locs → lv_has ls 3 [(0, .ref (ad 18)), (1, .int x1), (2, .int x2)] → W p l e (headSpec wsX6_compare ({ frames := 3, cells := 0, slots := 0, locals := 69 })).room s m (#[.ref (ad 18), .int a1, .int a2]) below meth c H locs 0 0 (MQ below (va_Qv (fun (_ : Unit) => True) (fun (_ : Unit) t => wAt (dC, dI) A (wG (cC cy ad τ) ad (182 + 6 * nb) σ9) t) A) (#[.ref (ad 18), .int a1, .int a2]) s 0 0 A) (F0 m 0 ls []) := by
    intro σ x1 x2 H locs ls h hP hD hS hl
    unfold fX6_compare_0 at h
    refine lv_aload_n hx hb dX6_compare_0 rfl (lv_at hl 0 rfl) ?_
    refine lv_aload_n hx hb dX6_compare_1 rfl (lv_at hl 0 rfl) ?_
    refine ux_get (D := (dC, dI)) (ci := 6) (v := .ref (ad 25)) (C := RX6) (T := TX6) (M := 12) (fs := (oPC ad (σ.1 18))) hx hb hts (fun _ h9 => List.mem_cons_of_mem _ (List.mem_append_left _ (List.mem_append_right _ h9))) hown hK hP 18 (Nat.lt_of_lt_of_le (Nat.le_of_ble_eq_true rfl : 18 < 182) (Nat.le_add_right _ _)) (cC_18 _ _ _ _ _) rfl 6 (by decide) (hts (.fieldLink RX6 32 "SeatsRound$Parcels" "oneTree" "[I") (List.mem_of_getElem? (i := 1) rfl)) (fun _ h9 => h9) rfl dX6_compare_2 ?_
    refine lv_iload_n hx hb dX6_compare_5 rfl (lv_at hl 1 rfl) ?_
    obtain ⟨r1, σ2, hf3, h⟩ := bsS h
    refine ux_callv (va_runV (As := [.ref (ad 25), .int x1]) (rest := []) ⟨hx, hb, hml, hown, hts⟩ (tX6_grow l dC dI cy ad τ nb hτ 25 16 (Nat.lt_of_lt_of_le (Nat.le_of_ble_eq_true rfl : 25 < 182) (Nat.le_add_right _ _)) (fun _ _ => (cC_25 _ _ _ _ _)) σ x1 H.size r1 σ2 hf3) (cwV 2 hts gX6_compare_X6_grow rfl rfl rfl (by decide +kernel) ⟨Nat.le_of_ble_eq_true rfl, Nat.le_of_ble_eq_true rfl⟩) (wp_V hK hN hP hD (va_recv hK hP (ci := 6) (q0 := 18) rfl (wG_of (Nat.lt_of_lt_of_le (Nat.le_of_ble_eq_true rfl : 18 < 182) (Nat.le_add_right _ _)) (cC_18 _ _ _ _ _)))) rfl rfl hl.1 rfl (lv_room (Nat.le_of_ble_eq_true rfl)) dX6_compare_6 ⟨Nat.le_of_ble_eq_true rfl, Nat.le_of_ble_eq_true rfl⟩) hD hS hA (fun H locs hP hD hS => ?_)
    refine lv_aload_n hx hb dX6_compare_9 rfl (lv_at hl 0 rfl) ?_
    refine lv_aload_n hx hb dX6_compare_10 rfl (lv_at hl 0 rfl) ?_
    refine ux_get (D := (dC, dI)) (ci := 6) (v := .ref (ad 26)) (C := RX6) (T := TX6) (M := 12) (fs := (oPC ad (σ2.1 18))) hx hb hts (fun _ h9 => List.mem_cons_of_mem _ (List.mem_append_left _ (List.mem_append_right _ h9))) hown hK hP 18 (Nat.lt_of_lt_of_le (Nat.le_of_ble_eq_true rfl : 18 < 182) (Nat.le_add_right _ _)) (cC_18 _ _ _ _ _) rfl 7 (by decide) (hts (.fieldLink RX6 35 "SeatsRound$Parcels" "otherTree" "[I") (List.mem_of_getElem? (i := 2) rfl)) (fun _ h9 => h9) rfl dX6_compare_11 ?_
    refine lv_iload_n hx hb dX6_compare_14 rfl (lv_at hl 2 rfl) ?_
    obtain ⟨r4, σ5, hf6, h⟩ := bsS h
    refine ux_callv (va_runV (As := [.ref (ad 26), .int x2]) (rest := []) ⟨hx, hb, hml, hown, hts⟩ (tX6_grow l dC dI cy ad τ nb hτ 26 16 (Nat.lt_of_lt_of_le (Nat.le_of_ble_eq_true rfl : 26 < 182) (Nat.le_add_right _ _)) (fun _ _ => (cC_26 _ _ _ _ _)) σ2 x2 H.size r4 σ5 hf6) (cwV 2 hts gX6_compare_X6_grow rfl rfl rfl (by decide +kernel) ⟨Nat.le_of_ble_eq_true rfl, Nat.le_of_ble_eq_true rfl⟩) (wp_V hK hN hP hD (va_recv hK hP (ci := 6) (q0 := 18) rfl (wG_of (Nat.lt_of_lt_of_le (Nat.le_of_ble_eq_true rfl : 18 < 182) (Nat.le_add_right _ _)) (cC_18 _ _ _ _ _)))) rfl rfl hl.1 rfl (lv_room (Nat.le_of_ble_eq_true rfl)) dX6_compare_15 ⟨Nat.le_of_ble_eq_true rfl, Nat.le_of_ble_eq_true rfl⟩) hD hS hA (fun H locs hP hD hS => ?_)
    exact ux_vret hx hb hr h hP hD hS hlocks dX6_compare_18
  intro H locs ls h hP hD hS hl
  exact w0 σ a1 a2 H locs ls h hP hD hS (lv_sub hl [0, 1, 2] rfl)

set_option maxHeartbeats 4000000 in
set_option maxRecDepth 100000 in
theorem tX6_wordsAsked (l : Launch) (dC : Nat → ClassId) (dI : Nat → Nat → Nat) (cy : Nat → ClassId) (ad : Nat → Nat) (τ nb : Nat) (hτ : τ < nb) (σ : S2)  (sz : Nat) (r0 : Int32) (h : fX6_wordsAsked τ σ = some r0) : Met l yX6_wordsAsked wsX6_wordsAsked ({ frames := 1, cells := 0, slots := 0, locals := 23 }) (va_Pc [.ref (ad 18)] (wPre (dC, dI) cy (wG (cC cy ad τ) ad (182 + 6 * nb) σ) sz)) (va_Qi (fun (r : Int32) (_ : Unit) => r = r0) (fun (_ : Unit) t => wAt (dC, dI) (va_A (wG (cC cy ad τ) ad (182 + 6 * nb) σ) sz) (wG (cC cy ad τ) ad (182 + 6 * nb) σ) t) (va_A (wG (cC cy ad τ) ad (182 + 6 * nb) σ) sz)) 0 0 (va_A (wG (cC cy ad τ) ad (182 + 6 * nb) σ) sz) := by
  refine Met.ofW (cc := cX6_wordsAsked) (maxL := 4) (ret := (some .int)) (by decide) rfl ?_
  intro p e s m args below meth c s₁ B hml hv
  obtain ⟨rfl, hsz, hP, hK, hD0, hN⟩ := hv
  have hx := B.exec
  have hb := B.bytes
  have hr := B.returns
  have hts := atoms_spec (ws := wsX6_wordsAsked) B.pre
  have hown : s.vm.findClass RX6 = some m.cls := findClass_of_methodNamed B.named
  have hlocks := B.notSynchronized
  subst hsz
  have hD := hD0.self (sz := s.heap.size)
  generalize hAe : va_A (wG (cC cy ad τ) ad (182 + 6 * nb) σ) s.heap.size = A at hD ⊢
  have hA : ∀ q : Nat, s.heap.size ≤ q → A q := fun q h => by rw [← hAe]; exact Or.inr h
  have hS : va_S A s.heap s.heap [] := va_S.rf
  have hl := lv_entry ([.ref (ad 18)]) (n := 4) (Nat.le_of_ble_eq_true rfl)
  rw [lg_entry_eq]
  generalize (lg_sl ([.ref (ad 18)]) ++ List.replicate (4 - (lg_sl ([.ref (ad 18)])).length) Slot.unset).toArray = ls at hl ⊢
  have hl : lv_has ls 4 [(0, .ref (ad 18))] := hl
  unfold fX6_wordsAsked at h
  clear hAe hD0
  suffices HH : ∀ (H : Heap) (locs : List Loc) (ls : Array Slot), fX6_wordsAsked_0 τ σ = some r0 → va_P (dC, dI) vwCl (wG (cC cy ad τ) ad (182 + 6 * nb) σ) H → va_D A (wG (cC cy ad τ) ad (182 + 6 * nb) σ) → va_S A s.heap H locs → lv_has ls 4 [(0, .ref (ad 18))] → W p l e (headSpec wsX6_wordsAsked ({ frames := 1, cells := 0, slots := 0, locals := 23 })).room s m (#[.ref (ad 18)]) below meth c H locs 0 0 (MQ below (va_Qi (fun (r : Int32) (_ : Unit) => r = r0) (fun (_ : Unit) t => wAt (dC, dI) A (wG (cC cy ad τ) ad (182 + 6 * nb) σ) t) A) (#[.ref (ad 18)]) s 0 0 A) (F0 m 0 ls []) from HH s.heap [] ls h hP hD hS hl
  have w49 : ∀ (k6 : S2 → Int32 → Int32 → Int32 → Option Int32) (hk6 : ∀ (σ : S2) (x1 : Int32) (x2 : Int32) (x3 : Int32) (H : Heap) (locs : List Loc) (ls : Array Slot), k6 σ x1 x2 x3 = some r0 → va_P (dC, dI) vwCl (wG (cC cy ad τ) ad (182 + 6 * nb) σ) H → va_D A (wG (cC cy ad τ) ad (182 + 6 * nb) σ) → va_S A s.heap H locs → lv_has ls 4 [(0, .ref (ad 18)), (1, .int x1), (2, .int x2), (3, .int x3)] → W p l e (headSpec wsX6_wordsAsked ({ frames := 1, cells := 0, slots := 0, locals := 23 })).room s m (#[.ref (ad 18)]) below meth c H locs 0 0 (MQ below (va_Qi (fun (r : Int32) (_ : Unit) => r = r0) (fun (_ : Unit) t => wAt (dC, dI) A (wG (cC cy ad τ) ad (182 + 6 * nb) σ) t) A) (#[.ref (ad 18)]) s 0 0 A) (F0 m 6 ls [])) , ∀ (σ : S2) (x1 : Int32) (x2 : Int32) (x3 : Int32) (H : Heap) (locs : List Loc) (ls : Array Slot), fX6_wordsAsked_49 τ k6 σ x1 x2 x3 = some r0 → va_P (dC, dI) vwCl (wG (cC cy ad τ) ad (182 + 6 * nb) σ) H → va_D A (wG (cC cy ad τ) ad (182 + 6 * nb) σ) → va_S A s.heap H locs → lv_has ls 4 [(0, .ref (ad 18)), (1, .int x1), (2, .int x2), (3, .int x3)] → W p l e (headSpec wsX6_wordsAsked ({ frames := 1, cells := 0, slots := 0, locals := 23 })).room s m (#[.ref (ad 18)]) below meth c H locs 0 0 (MQ below (va_Qi (fun (r : Int32) (_ : Unit) => r = r0) (fun (_ : Unit) t => wAt (dC, dI) A (wG (cC cy ad τ) ad (182 + 6 * nb) σ) t) A) (#[.ref (ad 18)]) s 0 0 A) (F0 m 49 ls []) := by
    intro k6 hk6 σ x1 x2 x3 H locs ls h hP hD hS hl
    unfold fX6_wordsAsked_49 at h
    obtain ⟨v1, ev1⟩ : ∃ y : Int32, y = x3 + 1 := ⟨_, rfl⟩
    have h := nmS h ev1
    refine lv_iinc (v := v1) (lv' := [(3, .int v1), (0, .ref (ad 18)), (1, .int x1), (2, .int x2)]) hx hb dX6_wordsAsked_49 hl (k := 3) rfl (by rw [ev1]; rfl) (by decide) rfl (fun ls hl => ?_)
    have hl := lv_sub hl [1, 2, 3, 0] (l' := [(0, .ref (ad 18)), (1, .int x1), (2, .int x2), (3, .int v1)]) rfl
    refine lv_goto (tgt := 6) hx hb dX6_wordsAsked_52 (by decide) ?_
    exact hk6 σ x1 x2 v1 H locs ls h hP hD hS hl
  have w6 : ∀ (n : Nat), ∀ (σ : S2) (x1 : Int32) (x2 : Int32) (x3 : Int32) (H : Heap) (locs : List Loc) (ls : Array Slot), fX6_wordsAsked_6 τ n σ x1 x2 x3 = some r0 → va_P (dC, dI) vwCl (wG (cC cy ad τ) ad (182 + 6 * nb) σ) H → va_D A (wG (cC cy ad τ) ad (182 + 6 * nb) σ) → va_S A s.heap H locs → lv_has ls 4 [(0, .ref (ad 18)), (1, .int x1), (2, .int x2), (3, .int x3)] → W p l e (headSpec wsX6_wordsAsked ({ frames := 1, cells := 0, slots := 0, locals := 23 })).room s m (#[.ref (ad 18)]) below meth c H locs 0 0 (MQ below (va_Qi (fun (r : Int32) (_ : Unit) => r = r0) (fun (_ : Unit) t => wAt (dC, dI) A (wG (cC cy ad τ) ad (182 + 6 * nb) σ) t) A) (#[.ref (ad 18)]) s 0 0 A) (F0 m 6 ls []) := by
    intro n
    induction n with
    | zero => intro σ x1 x2 x3 H locs ls h; cases h
    | succ n ih =>
    intro σ x1 x2 x3 H locs ls h hP hD hS hl
    unfold fX6_wordsAsked_6 at h
    refine lv_iload_n hx hb dX6_wordsAsked_6 rfl (lv_at hl 3 rfl) ?_
    refine lv_bipush (v := 8) hx hb dX6_wordsAsked_7 (by decide) ?_
    refine lv_icmp_ge (tgt := 55) hx hb dX6_wordsAsked_9 (by decide) (fun hcd => ?_) (fun hcd => ?_)
    · have h := cdP hcd h
      refine lv_iload_n hx hb dX6_wordsAsked_55 rfl (lv_at hl 1 rfl) ?_
      exact ux_iretP hx hb hr h hP hD hS hlocks dX6_wordsAsked_56
    · have h := cdN hcd h
      refine lv_iload_n hx hb dX6_wordsAsked_12 rfl (lv_at hl 2 rfl) ?_
      refine lv_iload_n hx hb dX6_wordsAsked_13 rfl (lv_at hl 3 rfl) ?_
      refine lv_ishr hx hb dX6_wordsAsked_14 ?_
      refine lv_iconst (v := 1) hx hb dX6_wordsAsked_15 (by decide) ?_
      refine lv_iand hx hb dX6_wordsAsked_16 ?_
      refine lv_if_eq (tgt := 49) hx hb dX6_wordsAsked_17 (by decide) (fun hcd => ?_) (fun hcd => ?_)
      · have h := cdP hcd h
        exact w49 _ ih σ x1 x2 x3 H locs ls h hP hD hS hl
      · have h := cdN hcd h
        refine lv_aload_n hx hb dX6_wordsAsked_20 rfl (lv_at hl 0 rfl) ?_
        refine ux_get (D := (dC, dI)) (ci := 6) (v := .ref (ad 25)) (C := RX6) (T := TX6) (M := 12) (fs := (oPC ad (σ.1 18))) hx hb hts (fun _ h9 => List.mem_cons_of_mem _ (List.mem_append_right _ h9)) hown hK hP 18 (Nat.lt_of_lt_of_le (Nat.le_of_ble_eq_true rfl : 18 < 182) (Nat.le_add_right _ _)) (cC_18 _ _ _ _ _) rfl 6 (by decide) (hts (.fieldLink RX6 32 "SeatsRound$Parcels" "oneTree" "[I") (List.mem_of_getElem? (i := 1) rfl)) (fun _ h9 => h9) rfl dX6_wordsAsked_21 ?_
        refine lv_iload_n hx hb dX6_wordsAsked_24 rfl (lv_at hl 3 rfl) ?_
        refine ux_iald hx hb hK hP 25 0 (Nat.lt_of_lt_of_le (Nat.le_of_ble_eq_true rfl : 25 < 182) (Nat.le_add_right _ _)) (cC_25 _ _ _ _ _) rfl h dX6_wordsAsked_25 (fun v2 h => ?_)
        refine lv_aload_n hx hb dX6_wordsAsked_26 rfl (lv_at hl 0 rfl) ?_
        refine ux_get (D := (dC, dI)) (ci := 6) (v := .ref (ad 26)) (C := RX6) (T := TX6) (M := 12) (fs := (oPC ad (σ.1 18))) hx hb hts (fun _ h9 => List.mem_cons_of_mem _ (List.mem_append_right _ h9)) hown hK hP 18 (Nat.lt_of_lt_of_le (Nat.le_of_ble_eq_true rfl : 18 < 182) (Nat.le_add_right _ _)) (cC_18 _ _ _ _ _) rfl 7 (by decide) (hts (.fieldLink RX6 35 "SeatsRound$Parcels" "otherTree" "[I") (List.mem_of_getElem? (i := 2) rfl)) (fun _ h9 => h9) rfl dX6_wordsAsked_27 ?_
        refine lv_iload_n hx hb dX6_wordsAsked_30 rfl (lv_at hl 3 rfl) ?_
        refine ux_iald hx hb hK hP 26 0 (Nat.lt_of_lt_of_le (Nat.le_of_ble_eq_true rfl : 26 < 182) (Nat.le_add_right _ _)) (cC_26 _ _ _ _ _) rfl h dX6_wordsAsked_31 (fun v3 h => ?_)
        refine lv_icmp_ne (tgt := 38) hx hb dX6_wordsAsked_32 (by decide) (fun hcd => ?_) (fun hcd => ?_)
        · have h := cdN hcd h
          obtain ⟨v4, ev4⟩ : ∃ y : Int32, y = x1 + 2 := ⟨_, rfl⟩
          have h := nmS h ev4
          refine lv_iinc (v := v4) (lv' := [(1, .int v4), (0, .ref (ad 18)), (2, .int x2), (3, .int x3)]) hx hb dX6_wordsAsked_38 hl (k := 1) rfl (by rw [ev4]; rfl) (by decide) rfl (fun ls hl => ?_)
          have hl := lv_sub hl [1, 0, 2, 3] (l' := [(0, .ref (ad 18)), (1, .int v4), (2, .int x2), (3, .int x3)]) rfl
          refine lv_iload_n hx hb dX6_wordsAsked_41 rfl (lv_at hl 2 rfl) ?_
          refine lv_iconst (v := 3) hx hb dX6_wordsAsked_42 (by decide) ?_
          refine lv_iconst (v := 2) hx hb dX6_wordsAsked_43 (by decide) ?_
          refine lv_iload_n hx hb dX6_wordsAsked_44 rfl (lv_at hl 3 rfl) ?_
          refine lv_imul hx hb dX6_wordsAsked_45 ?_
          refine lv_ishl hx hb dX6_wordsAsked_46 ?_
          refine lv_ior hx hb dX6_wordsAsked_47 ?_
          refine lv_topi (fun v5 ev5 => ?_)
          have h := nmS h ev5
          refine lv_istore_n (lv' := [(2, .int v5), (0, .ref (ad 18)), (1, .int v4), (3, .int x3)]) hx hb dX6_wordsAsked_48 rfl hl (by decide) rfl (fun ls hl => ?_)
          have hl := lv_sub hl [1, 2, 0, 3] (l' := [(0, .ref (ad 18)), (1, .int v4), (2, .int v5), (3, .int x3)]) rfl
          change W _ _ _ _ _ _ _ _ _ _ _ _ _ _ _ (F0 m 49 ls [])
          exact w49 _ ih σ v4 v5 x3 H locs ls h hP hD hS hl
        · have h := cdP hcd h
          refine lv_goto (tgt := 49) hx hb dX6_wordsAsked_35 (by decide) ?_
          exact w49 _ ih σ x1 x2 x3 H locs ls h hP hD hS hl
  have w0 : ∀ (σ : S2)  (H : Heap) (locs : List Loc) (ls : Array Slot), fX6_wordsAsked_0 τ σ = some r0 → va_P (dC, dI) vwCl (wG (cC cy ad τ) ad (182 + 6 * nb) σ) H → va_D A (wG (cC cy ad τ) ad (182 + 6 * nb) σ) → va_S A s.heap H locs → lv_has ls 4 [(0, .ref (ad 18))] → W p l e (headSpec wsX6_wordsAsked ({ frames := 1, cells := 0, slots := 0, locals := 23 })).room s m (#[.ref (ad 18)]) below meth c H locs 0 0 (MQ below (va_Qi (fun (r : Int32) (_ : Unit) => r = r0) (fun (_ : Unit) t => wAt (dC, dI) A (wG (cC cy ad τ) ad (182 + 6 * nb) σ) t) A) (#[.ref (ad 18)]) s 0 0 A) (F0 m 0 ls []) := by
    intro σ H locs ls h hP hD hS hl
    unfold fX6_wordsAsked_0 at h
    refine lv_iconst (v := 1) hx hb dX6_wordsAsked_0 (by decide) ?_
    refine lv_istore_n (lv' := [(1, .int 1), (0, .ref (ad 18))]) hx hb dX6_wordsAsked_1 rfl hl (by decide) rfl (fun ls hl => ?_)
    have hl := lv_sub hl [1, 0] (l' := [(0, .ref (ad 18)), (1, .int 1)]) rfl
    refine lv_iconst (v := 2) hx hb dX6_wordsAsked_2 (by decide) ?_
    refine lv_istore_n (lv' := [(2, .int 2), (0, .ref (ad 18)), (1, .int 1)]) hx hb dX6_wordsAsked_3 rfl hl (by decide) rfl (fun ls hl => ?_)
    have hl := lv_sub hl [1, 2, 0] (l' := [(0, .ref (ad 18)), (1, .int 1), (2, .int 2)]) rfl
    refine lv_iconst (v := 1) hx hb dX6_wordsAsked_4 (by decide) ?_
    refine lv_istore_n (lv' := [(3, .int 1), (0, .ref (ad 18)), (1, .int 1), (2, .int 2)]) hx hb dX6_wordsAsked_5 rfl hl (by decide) rfl (fun ls hl => ?_)
    have hl := lv_sub hl [1, 2, 3, 0] (l' := [(0, .ref (ad 18)), (1, .int 1), (2, .int 2), (3, .int 1)]) rfl
    exact w6 FU σ 1 2 1 H locs ls h hP hD hS hl
  intro H locs ls h hP hD hS hl
  exact w0 σ H locs ls h hP hD hS (lv_sub hl [0] rfl)

set_option maxHeartbeats 4000000 in
set_option maxRecDepth 100000 in
theorem tX6_unlikeLeaves (l : Launch) (dC : Nat → ClassId) (dI : Nat → Nat → Nat) (cy : Nat → ClassId) (ad : Nat → Nat) (τ nb : Nat) (hτ : τ < nb) (σ : S2)  (sz : Nat) (r0 : Int32) (h : fX6_unlikeLeaves τ σ = some r0) : Met l yX6_unlikeLeaves wsX6_unlikeLeaves ({ frames := 1, cells := 0, slots := 0, locals := 23 }) (va_Pc [.ref (ad 18)] (wPre (dC, dI) cy (wG (cC cy ad τ) ad (182 + 6 * nb) σ) sz)) (va_Qi (fun (r : Int32) (_ : Unit) => r = r0) (fun (_ : Unit) t => wAt (dC, dI) (va_A (wG (cC cy ad τ) ad (182 + 6 * nb) σ) sz) (wG (cC cy ad τ) ad (182 + 6 * nb) σ) t) (va_A (wG (cC cy ad τ) ad (182 + 6 * nb) σ) sz)) 0 0 (va_A (wG (cC cy ad τ) ad (182 + 6 * nb) σ) sz) := by
  refine Met.ofW (cc := cX6_unlikeLeaves) (maxL := 3) (ret := (some .int)) (by decide) rfl ?_
  intro p e s m args below meth c s₁ B hml hv
  obtain ⟨rfl, hsz, hP, hK, hD0, hN⟩ := hv
  have hx := B.exec
  have hb := B.bytes
  have hr := B.returns
  have hts := atoms_spec (ws := wsX6_unlikeLeaves) B.pre
  have hown : s.vm.findClass RX6 = some m.cls := findClass_of_methodNamed B.named
  have hlocks := B.notSynchronized
  subst hsz
  have hD := hD0.self (sz := s.heap.size)
  generalize hAe : va_A (wG (cC cy ad τ) ad (182 + 6 * nb) σ) s.heap.size = A at hD ⊢
  have hA : ∀ q : Nat, s.heap.size ≤ q → A q := fun q h => by rw [← hAe]; exact Or.inr h
  have hS : va_S A s.heap s.heap [] := va_S.rf
  have hl := lv_entry ([.ref (ad 18)]) (n := 3) (Nat.le_of_ble_eq_true rfl)
  rw [lg_entry_eq]
  generalize (lg_sl ([.ref (ad 18)]) ++ List.replicate (3 - (lg_sl ([.ref (ad 18)])).length) Slot.unset).toArray = ls at hl ⊢
  have hl : lv_has ls 3 [(0, .ref (ad 18))] := hl
  unfold fX6_unlikeLeaves at h
  clear hAe hD0
  suffices HH : ∀ (H : Heap) (locs : List Loc) (ls : Array Slot), fX6_unlikeLeaves_0 τ σ = some r0 → va_P (dC, dI) vwCl (wG (cC cy ad τ) ad (182 + 6 * nb) σ) H → va_D A (wG (cC cy ad τ) ad (182 + 6 * nb) σ) → va_S A s.heap H locs → lv_has ls 3 [(0, .ref (ad 18))] → W p l e (headSpec wsX6_unlikeLeaves ({ frames := 1, cells := 0, slots := 0, locals := 23 })).room s m (#[.ref (ad 18)]) below meth c H locs 0 0 (MQ below (va_Qi (fun (r : Int32) (_ : Unit) => r = r0) (fun (_ : Unit) t => wAt (dC, dI) A (wG (cC cy ad τ) ad (182 + 6 * nb) σ) t) A) (#[.ref (ad 18)]) s 0 0 A) (F0 m 0 ls []) from HH s.heap [] ls h hP hD hS hl
  have w29 : ∀ (k5 : S2 → Int32 → Int32 → Option Int32) (hk5 : ∀ (σ : S2) (x1 : Int32) (x2 : Int32) (H : Heap) (locs : List Loc) (ls : Array Slot), k5 σ x1 x2 = some r0 → va_P (dC, dI) vwCl (wG (cC cy ad τ) ad (182 + 6 * nb) σ) H → va_D A (wG (cC cy ad τ) ad (182 + 6 * nb) σ) → va_S A s.heap H locs → lv_has ls 3 [(0, .ref (ad 18)), (1, .int x1), (2, .int x2)] → W p l e (headSpec wsX6_unlikeLeaves ({ frames := 1, cells := 0, slots := 0, locals := 23 })).room s m (#[.ref (ad 18)]) below meth c H locs 0 0 (MQ below (va_Qi (fun (r : Int32) (_ : Unit) => r = r0) (fun (_ : Unit) t => wAt (dC, dI) A (wG (cC cy ad τ) ad (182 + 6 * nb) σ) t) A) (#[.ref (ad 18)]) s 0 0 A) (F0 m 5 ls [])) , ∀ (σ : S2) (x1 : Int32) (x2 : Int32) (H : Heap) (locs : List Loc) (ls : Array Slot), fX6_unlikeLeaves_29 τ k5 σ x1 x2 = some r0 → va_P (dC, dI) vwCl (wG (cC cy ad τ) ad (182 + 6 * nb) σ) H → va_D A (wG (cC cy ad τ) ad (182 + 6 * nb) σ) → va_S A s.heap H locs → lv_has ls 3 [(0, .ref (ad 18)), (1, .int x1), (2, .int x2)] → W p l e (headSpec wsX6_unlikeLeaves ({ frames := 1, cells := 0, slots := 0, locals := 23 })).room s m (#[.ref (ad 18)]) below meth c H locs 0 0 (MQ below (va_Qi (fun (r : Int32) (_ : Unit) => r = r0) (fun (_ : Unit) t => wAt (dC, dI) A (wG (cC cy ad τ) ad (182 + 6 * nb) σ) t) A) (#[.ref (ad 18)]) s 0 0 A) (F0 m 29 ls []) := by
    intro k5 hk5 σ x1 x2 H locs ls h hP hD hS hl
    unfold fX6_unlikeLeaves_29 at h
    obtain ⟨v1, ev1⟩ : ∃ y : Int32, y = x2 + 1 := ⟨_, rfl⟩
    have h := nmS h ev1
    refine lv_iinc (v := v1) (lv' := [(2, .int v1), (0, .ref (ad 18)), (1, .int x1)]) hx hb dX6_unlikeLeaves_29 hl (k := 2) rfl (by rw [ev1]; rfl) (by decide) rfl (fun ls hl => ?_)
    have hl := lv_sub hl [1, 2, 0] (l' := [(0, .ref (ad 18)), (1, .int x1), (2, .int v1)]) rfl
    refine lv_goto (tgt := 5) hx hb dX6_unlikeLeaves_32 (by decide) ?_
    exact hk5 σ x1 v1 H locs ls h hP hD hS hl
  have w5 : ∀ (n : Nat), ∀ (σ : S2) (x1 : Int32) (x2 : Int32) (H : Heap) (locs : List Loc) (ls : Array Slot), fX6_unlikeLeaves_5 τ n σ x1 x2 = some r0 → va_P (dC, dI) vwCl (wG (cC cy ad τ) ad (182 + 6 * nb) σ) H → va_D A (wG (cC cy ad τ) ad (182 + 6 * nb) σ) → va_S A s.heap H locs → lv_has ls 3 [(0, .ref (ad 18)), (1, .int x1), (2, .int x2)] → W p l e (headSpec wsX6_unlikeLeaves ({ frames := 1, cells := 0, slots := 0, locals := 23 })).room s m (#[.ref (ad 18)]) below meth c H locs 0 0 (MQ below (va_Qi (fun (r : Int32) (_ : Unit) => r = r0) (fun (_ : Unit) t => wAt (dC, dI) A (wG (cC cy ad τ) ad (182 + 6 * nb) σ) t) A) (#[.ref (ad 18)]) s 0 0 A) (F0 m 5 ls []) := by
    intro n
    induction n with
    | zero => intro σ x1 x2 H locs ls h; cases h
    | succ n ih =>
    intro σ x1 x2 H locs ls h hP hD hS hl
    unfold fX6_unlikeLeaves_5 at h
    refine lv_iload_n hx hb dX6_unlikeLeaves_5 rfl (lv_at hl 2 rfl) ?_
    refine lv_bipush (v := 16) hx hb dX6_unlikeLeaves_6 (by decide) ?_
    refine lv_icmp_ge (tgt := 35) hx hb dX6_unlikeLeaves_8 (by decide) (fun hcd => ?_) (fun hcd => ?_)
    · have h := cdP hcd h
      refine lv_iload_n hx hb dX6_unlikeLeaves_35 rfl (lv_at hl 1 rfl) ?_
      exact ux_iretP hx hb hr h hP hD hS hlocks dX6_unlikeLeaves_36
    · have h := cdN hcd h
      refine lv_aload_n hx hb dX6_unlikeLeaves_11 rfl (lv_at hl 0 rfl) ?_
      refine ux_get (D := (dC, dI)) (ci := 6) (v := .ref (ad 25)) (C := RX6) (T := TX6) (M := 12) (fs := (oPC ad (σ.1 18))) hx hb hts (fun _ h9 => List.mem_cons_of_mem _ (List.mem_append_right _ h9)) hown hK hP 18 (Nat.lt_of_lt_of_le (Nat.le_of_ble_eq_true rfl : 18 < 182) (Nat.le_add_right _ _)) (cC_18 _ _ _ _ _) rfl 6 (by decide) (hts (.fieldLink RX6 32 "SeatsRound$Parcels" "oneTree" "[I") (List.mem_of_getElem? (i := 1) rfl)) (fun _ h9 => h9) rfl dX6_unlikeLeaves_12 ?_
      refine lv_iload_n hx hb dX6_unlikeLeaves_15 rfl (lv_at hl 2 rfl) ?_
      refine ux_iald hx hb hK hP 25 0 (Nat.lt_of_lt_of_le (Nat.le_of_ble_eq_true rfl : 25 < 182) (Nat.le_add_right _ _)) (cC_25 _ _ _ _ _) rfl h dX6_unlikeLeaves_16 (fun v2 h => ?_)
      refine lv_aload_n hx hb dX6_unlikeLeaves_17 rfl (lv_at hl 0 rfl) ?_
      refine ux_get (D := (dC, dI)) (ci := 6) (v := .ref (ad 26)) (C := RX6) (T := TX6) (M := 12) (fs := (oPC ad (σ.1 18))) hx hb hts (fun _ h9 => List.mem_cons_of_mem _ (List.mem_append_right _ h9)) hown hK hP 18 (Nat.lt_of_lt_of_le (Nat.le_of_ble_eq_true rfl : 18 < 182) (Nat.le_add_right _ _)) (cC_18 _ _ _ _ _) rfl 7 (by decide) (hts (.fieldLink RX6 35 "SeatsRound$Parcels" "otherTree" "[I") (List.mem_of_getElem? (i := 2) rfl)) (fun _ h9 => h9) rfl dX6_unlikeLeaves_18 ?_
      refine lv_iload_n hx hb dX6_unlikeLeaves_21 rfl (lv_at hl 2 rfl) ?_
      refine ux_iald hx hb hK hP 26 0 (Nat.lt_of_lt_of_le (Nat.le_of_ble_eq_true rfl : 26 < 182) (Nat.le_add_right _ _)) (cC_26 _ _ _ _ _) rfl h dX6_unlikeLeaves_22 (fun v3 h => ?_)
      refine lv_icmp_eq (tgt := 29) hx hb dX6_unlikeLeaves_23 (by decide) (fun hcd => ?_) (fun hcd => ?_)
      · have h := cdP hcd h
        exact w29 _ ih σ x1 x2 H locs ls h hP hD hS hl
      · have h := cdN hcd h
        obtain ⟨v4, ev4⟩ : ∃ y : Int32, y = x1 + 1 := ⟨_, rfl⟩
        have h := nmS h ev4
        refine lv_iinc (v := v4) (lv' := [(1, .int v4), (0, .ref (ad 18)), (2, .int x2)]) hx hb dX6_unlikeLeaves_26 hl (k := 1) rfl (by rw [ev4]; rfl) (by decide) rfl (fun ls hl => ?_)
        have hl := lv_sub hl [1, 0, 2] (l' := [(0, .ref (ad 18)), (1, .int v4), (2, .int x2)]) rfl
        exact w29 _ ih σ v4 x2 H locs ls h hP hD hS hl
  have w0 : ∀ (σ : S2)  (H : Heap) (locs : List Loc) (ls : Array Slot), fX6_unlikeLeaves_0 τ σ = some r0 → va_P (dC, dI) vwCl (wG (cC cy ad τ) ad (182 + 6 * nb) σ) H → va_D A (wG (cC cy ad τ) ad (182 + 6 * nb) σ) → va_S A s.heap H locs → lv_has ls 3 [(0, .ref (ad 18))] → W p l e (headSpec wsX6_unlikeLeaves ({ frames := 1, cells := 0, slots := 0, locals := 23 })).room s m (#[.ref (ad 18)]) below meth c H locs 0 0 (MQ below (va_Qi (fun (r : Int32) (_ : Unit) => r = r0) (fun (_ : Unit) t => wAt (dC, dI) A (wG (cC cy ad τ) ad (182 + 6 * nb) σ) t) A) (#[.ref (ad 18)]) s 0 0 A) (F0 m 0 ls []) := by
    intro σ H locs ls h hP hD hS hl
    unfold fX6_unlikeLeaves_0 at h
    refine lv_iconst (v := 0) hx hb dX6_unlikeLeaves_0 (by decide) ?_
    refine lv_istore_n (lv' := [(1, .int 0), (0, .ref (ad 18))]) hx hb dX6_unlikeLeaves_1 rfl hl (by decide) rfl (fun ls hl => ?_)
    have hl := lv_sub hl [1, 0] (l' := [(0, .ref (ad 18)), (1, .int 0)]) rfl
    refine lv_bipush (v := 8) hx hb dX6_unlikeLeaves_2 (by decide) ?_
    refine lv_istore_n (lv' := [(2, .int 8), (0, .ref (ad 18)), (1, .int 0)]) hx hb dX6_unlikeLeaves_4 rfl hl (by decide) rfl (fun ls hl => ?_)
    have hl := lv_sub hl [1, 2, 0] (l' := [(0, .ref (ad 18)), (1, .int 0), (2, .int 8)]) rfl
    exact w5 FU σ 0 8 H locs ls h hP hD hS hl
  intro H locs ls h hP hD hS hl
  exact w0 σ H locs ls h hP hD hS (lv_sub hl [0] rfl)

set_option maxHeartbeats 4000000 in
set_option maxRecDepth 100000 in
theorem tX6_keptBy (l : Launch) (dC : Nat → ClassId) (dI : Nat → Nat → Nat) (cy : Nat → ClassId) (ad : Nat → Nat) (τ nb : Nat) (hτ : τ < nb) (σ : S2) (a1 : Int32) (sz : Nat) (r0 : Int32) (h : fX6_keptBy τ σ a1 = some r0) : Met l yX6_keptBy wsX6_keptBy ({ frames := 2, cells := 0, slots := 0, locals := 48 }) (va_Pc [.ref (ad 18), .int a1] (wPre (dC, dI) cy (wG (cC cy ad τ) ad (182 + 6 * nb) σ) sz)) (va_Qi (fun (r : Int32) (_ : Unit) => r = r0) (fun (_ : Unit) t => wAt (dC, dI) (va_A (wG (cC cy ad τ) ad (182 + 6 * nb) σ) sz) (wG (cC cy ad τ) ad (182 + 6 * nb) σ) t) (va_A (wG (cC cy ad τ) ad (182 + 6 * nb) σ) sz)) 0 0 (va_A (wG (cC cy ad τ) ad (182 + 6 * nb) σ) sz) := by
  refine Met.ofW (cc := cX6_keptBy) (maxL := 2) (ret := (some .int)) (by decide) rfl ?_
  intro p e s m args below meth c s₁ B hml hv
  obtain ⟨rfl, hsz, hP, hK, hD0, hN⟩ := hv
  have hx := B.exec
  have hb := B.bytes
  have hr := B.returns
  have hts := atoms_spec (ws := wsX6_keptBy) B.pre
  have hown : s.vm.findClass RX6 = some m.cls := findClass_of_methodNamed B.named
  have hlocks := B.notSynchronized
  subst hsz
  have hD := hD0.self (sz := s.heap.size)
  generalize hAe : va_A (wG (cC cy ad τ) ad (182 + 6 * nb) σ) s.heap.size = A at hD ⊢
  have hA : ∀ q : Nat, s.heap.size ≤ q → A q := fun q h => by rw [← hAe]; exact Or.inr h
  have hS : va_S A s.heap s.heap [] := va_S.rf
  have hl := lv_entry ([.ref (ad 18), .int a1]) (n := 2) (Nat.le_of_ble_eq_true rfl)
  rw [lg_entry_eq]
  generalize (lg_sl ([.ref (ad 18), .int a1]) ++ List.replicate (2 - (lg_sl ([.ref (ad 18), .int a1])).length) Slot.unset).toArray = ls at hl ⊢
  have hl : lv_has ls 2 [(0, .ref (ad 18)), (1, .int a1)] := hl
  unfold fX6_keptBy at h
  clear hAe hD0
  suffices HH : ∀ (H : Heap) (locs : List Loc) (ls : Array Slot), fX6_keptBy_0 τ σ a1 = some r0 → va_P (dC, dI) vwCl (wG (cC cy ad τ) ad (182 + 6 * nb) σ) H → va_D A (wG (cC cy ad τ) ad (182 + 6 * nb) σ) → va_S A s.heap H locs → lv_has ls 2 [(0, .ref (ad 18)), (1, .int a1)] → W p l e (headSpec wsX6_keptBy ({ frames := 2, cells := 0, slots := 0, locals := 48 })).room s m (#[.ref (ad 18), .int a1]) below meth c H locs 0 0 (MQ below (va_Qi (fun (r : Int32) (_ : Unit) => r = r0) (fun (_ : Unit) t => wAt (dC, dI) A (wG (cC cy ad τ) ad (182 + 6 * nb) σ) t) A) (#[.ref (ad 18), .int a1]) s 0 0 A) (F0 m 0 ls []) from HH s.heap [] ls h hP hD hS hl
  have w0 : ∀ (σ : S2) (x1 : Int32) (H : Heap) (locs : List Loc) (ls : Array Slot), fX6_keptBy_0 τ σ x1 = some r0 → va_P (dC, dI) vwCl (wG (cC cy ad τ) ad (182 + 6 * nb) σ) H → va_D A (wG (cC cy ad τ) ad (182 + 6 * nb) σ) → va_S A s.heap H locs → lv_has ls 2 [(0, .ref (ad 18)), (1, .int x1)] → W p l e (headSpec wsX6_keptBy ({ frames := 2, cells := 0, slots := 0, locals := 48 })).room s m (#[.ref (ad 18), .int a1]) below meth c H locs 0 0 (MQ below (va_Qi (fun (r : Int32) (_ : Unit) => r = r0) (fun (_ : Unit) t => wAt (dC, dI) A (wG (cC cy ad τ) ad (182 + 6 * nb) σ) t) A) (#[.ref (ad 18), .int a1]) s 0 0 A) (F0 m 0 ls []) := by
    intro σ x1 H locs ls h hP hD hS hl
    unfold fX6_keptBy_0 at h
    refine lv_aload_n hx hb dX6_keptBy_0 rfl (lv_at hl 0 rfl) ?_
    refine ux_get (D := (dC, dI)) (ci := 6) (v := .ref (ad 20)) (C := RX6) (T := TX6) (M := 12) (fs := (oPC ad (σ.1 18))) hx hb hts (fun _ h9 => List.mem_cons_of_mem _ (List.mem_append_right _ h9)) hown hK hP 18 (Nat.lt_of_lt_of_le (Nat.le_of_ble_eq_true rfl : 18 < 182) (Nat.le_add_right _ _)) (cC_18 _ _ _ _ _) rfl 1 (by decide) (hts (.fieldLink RX6 16 "SeatsRound$Parcels" "kept" "[[I") (List.mem_of_getElem? (i := 1) rfl)) (fun _ h9 => h9) rfl dX6_keptBy_1 ?_
    refine lv_iload_n hx hb dX6_keptBy_4 rfl (lv_at hl 1 rfl) ?_
    obtain ⟨hii1, h⟩ := ckS h
    have hri1 := vp_lt hii1
    refine vz_aldg hx hb hK hP 20 6 (wG_of (Nat.lt_of_lt_of_le (Nat.le_of_ble_eq_true rfl : 20 < 182) (Nat.le_add_right _ _)) (cC_20 _ _ _ _ _)) rfl hii1 (if_pos hri1) dX6_keptBy_5 ?_
    obtain ⟨r2, hf3, h⟩ := biS h
    refine ux_calli (va_runS (As := [.ref (ad (96 + Int32.toNatClampNeg x1))]) (rest := []) ⟨hx, hb, hml, hown, hts⟩ (tX6_filled l dC dI cy ad τ nb hτ (96 + Int32.toNatClampNeg x1) 40 (by omega) (fun _ _ => (cC_r2 _ _ _ _ _ _ (by omega))) σ H.size r2 hf3) (va_cwS 1 hts gX6_keptBy_X6_filled rfl rfl rfl (by decide +kernel) ⟨Nat.le_of_ble_eq_true rfl, Nat.le_of_ble_eq_true rfl⟩) (wp_S hK hN hP hD) rfl rfl hl.1 rfl (lv_room (Nat.le_of_ble_eq_true rfl)) dX6_keptBy_6 ⟨Nat.le_of_ble_eq_true rfl, Nat.le_of_ble_eq_true rfl⟩) hD hS hA (fun H locs hP hD hS => ?_)
    exact ux_iretP hx hb hr h hP hD hS hlocks dX6_keptBy_9
  intro H locs ls h hP hD hS hl
  exact w0 σ a1 H locs ls h hP hD hS (lv_sub hl [0, 1] rfl)

set_option maxHeartbeats 4000000 in
set_option maxRecDepth 100000 in
theorem tX6_allCopies (l : Launch) (dC : Nat → ClassId) (dI : Nat → Nat → Nat) (cy : Nat → ClassId) (ad : Nat → Nat) (τ nb : Nat) (hτ : τ < nb) (σ : S2)  (sz : Nat) (r0 : Int32) (h : fX6_allCopies τ σ = some r0) : Met l yX6_allCopies wsX6_allCopies ({ frames := 3, cells := 0, slots := 0, locals := 69 }) (va_Pc [.ref (ad 18)] (wPre (dC, dI) cy (wG (cC cy ad τ) ad (182 + 6 * nb) σ) sz)) (va_Qi (fun (r : Int32) (_ : Unit) => r = r0) (fun (_ : Unit) t => wAt (dC, dI) (va_A (wG (cC cy ad τ) ad (182 + 6 * nb) σ) sz) (wG (cC cy ad τ) ad (182 + 6 * nb) σ) t) (va_A (wG (cC cy ad τ) ad (182 + 6 * nb) σ) sz)) 0 0 (va_A (wG (cC cy ad τ) ad (182 + 6 * nb) σ) sz) := by
  refine Met.ofW (cc := cX6_allCopies) (maxL := 3) (ret := (some .int)) (by decide) rfl ?_
  intro p e s m args below meth c s₁ B hml hv
  obtain ⟨rfl, hsz, hP, hK, hD0, hN⟩ := hv
  have hx := B.exec
  have hb := B.bytes
  have hr := B.returns
  have hts := atoms_spec (ws := wsX6_allCopies) B.pre
  have hown : s.vm.findClass RX6 = some m.cls := findClass_of_methodNamed B.named
  have hlocks := B.notSynchronized
  subst hsz
  have hD := hD0.self (sz := s.heap.size)
  generalize hAe : va_A (wG (cC cy ad τ) ad (182 + 6 * nb) σ) s.heap.size = A at hD ⊢
  have hA : ∀ q : Nat, s.heap.size ≤ q → A q := fun q h => by rw [← hAe]; exact Or.inr h
  have hS : va_S A s.heap s.heap [] := va_S.rf
  have hl := lv_entry ([.ref (ad 18)]) (n := 3) (Nat.le_of_ble_eq_true rfl)
  rw [lg_entry_eq]
  generalize (lg_sl ([.ref (ad 18)]) ++ List.replicate (3 - (lg_sl ([.ref (ad 18)])).length) Slot.unset).toArray = ls at hl ⊢
  have hl : lv_has ls 3 [(0, .ref (ad 18))] := hl
  unfold fX6_allCopies at h
  clear hAe hD0
  suffices HH : ∀ (H : Heap) (locs : List Loc) (ls : Array Slot), fX6_allCopies_0 τ σ = some r0 → va_P (dC, dI) vwCl (wG (cC cy ad τ) ad (182 + 6 * nb) σ) H → va_D A (wG (cC cy ad τ) ad (182 + 6 * nb) σ) → va_S A s.heap H locs → lv_has ls 3 [(0, .ref (ad 18))] → W p l e (headSpec wsX6_allCopies ({ frames := 3, cells := 0, slots := 0, locals := 69 })).room s m (#[.ref (ad 18)]) below meth c H locs 0 0 (MQ below (va_Qi (fun (r : Int32) (_ : Unit) => r = r0) (fun (_ : Unit) t => wAt (dC, dI) A (wG (cC cy ad τ) ad (182 + 6 * nb) σ) t) A) (#[.ref (ad 18)]) s 0 0 A) (F0 m 0 ls []) from HH s.heap [] ls h hP hD hS hl
  have w4 : ∀ (n : Nat), ∀ (σ : S2) (x1 : Int32) (x2 : Int32) (H : Heap) (locs : List Loc) (ls : Array Slot), fX6_allCopies_4 τ n σ x1 x2 = some r0 → va_P (dC, dI) vwCl (wG (cC cy ad τ) ad (182 + 6 * nb) σ) H → va_D A (wG (cC cy ad τ) ad (182 + 6 * nb) σ) → va_S A s.heap H locs → lv_has ls 3 [(0, .ref (ad 18)), (1, .int x1), (2, .int x2)] → W p l e (headSpec wsX6_allCopies ({ frames := 3, cells := 0, slots := 0, locals := 69 })).room s m (#[.ref (ad 18)]) below meth c H locs 0 0 (MQ below (va_Qi (fun (r : Int32) (_ : Unit) => r = r0) (fun (_ : Unit) t => wAt (dC, dI) A (wG (cC cy ad τ) ad (182 + 6 * nb) σ) t) A) (#[.ref (ad 18)]) s 0 0 A) (F0 m 4 ls []) := by
    intro n
    induction n with
    | zero => intro σ x1 x2 H locs ls h; cases h
    | succ n ih =>
    intro σ x1 x2 H locs ls h hP hD hS hl
    unfold fX6_allCopies_4 at h
    refine lv_iload_n hx hb dX6_allCopies_4 rfl (lv_at hl 2 rfl) ?_
    refine lv_aload_n hx hb dX6_allCopies_5 rfl (lv_at hl 0 rfl) ?_
    refine ux_get (D := (dC, dI)) (ci := 6) (v := .ref (ad 7)) (C := RX6) (T := TX6) (M := 12) (fs := (oPC ad (σ.1 18))) hx hb hts (fun _ h9 => List.mem_cons_of_mem _ (List.mem_append_left _ (List.mem_append_right _ h9))) hown hK hP 18 (Nat.lt_of_lt_of_le (Nat.le_of_ble_eq_true rfl : 18 < 182) (Nat.le_add_right _ _)) (cC_18 _ _ _ _ _) rfl 9 (by decide) (hts (.fieldLink RX6 42 "SeatsRound$Parcels" "keepers" "LSeatsRound$Keepers;") (List.mem_of_getElem? (i := 1) rfl)) (fun _ h9 => h9) rfl dX6_allCopies_6 ?_
    refine ux_get (D := (dC, dI)) (ci := 2) (v := .int (σ.1 7 5)) (C := RX2) (T := TX2) (M := 6) (fs := (oKP ad (σ.1 7))) hx hb hts (fun _ h9 => List.mem_cons_of_mem _ (List.mem_append_right _ h9)) hown hK hP 7 (Nat.lt_of_lt_of_le (Nat.le_of_ble_eq_true rfl : 7 < 182) (Nat.le_add_right _ _)) (cC_7 _ _ _ _ _) rfl 5 (by decide) (hts (.fieldLink RX6 120 "SeatsRound$Keepers" "count" "I") (List.mem_of_getElem? (i := 2) rfl)) (fun _ h9 => h9) rfl dX6_allCopies_9 ?_
    refine lv_icmp_ge (tgt := 29) hx hb dX6_allCopies_12 (by decide) (fun hcd => ?_) (fun hcd => ?_)
    · have h := cdP hcd h
      refine lv_iload_n hx hb dX6_allCopies_29 rfl (lv_at hl 1 rfl) ?_
      exact ux_iretP hx hb hr h hP hD hS hlocks dX6_allCopies_30
    · have h := cdN hcd h
      refine lv_iload_n hx hb dX6_allCopies_15 rfl (lv_at hl 1 rfl) ?_
      refine lv_aload_n hx hb dX6_allCopies_16 rfl (lv_at hl 0 rfl) ?_
      refine lv_iload_n hx hb dX6_allCopies_17 rfl (lv_at hl 2 rfl) ?_
      obtain ⟨r1, hf2, h⟩ := biS h
      refine ux_calli (va_runV (As := [.int x2]) (rest := [.int x1]) ⟨hx, hb, hml, hown, hts⟩ (tX6_copiesOn l dC dI cy ad τ nb hτ σ x2 H.size r1 hf2) (cwV 1 hts gX6_allCopies_X6_copiesOn rfl rfl rfl (by decide +kernel) ⟨Nat.le_of_ble_eq_true rfl, Nat.le_of_ble_eq_true rfl⟩) (wp_V hK hN hP hD (va_recv hK hP (ci := 6) (q0 := 18) rfl (wG_of (Nat.lt_of_lt_of_le (Nat.le_of_ble_eq_true rfl : 18 < 182) (Nat.le_add_right _ _)) (cC_18 _ _ _ _ _)))) rfl rfl hl.1 rfl (lv_room (Nat.le_of_ble_eq_true rfl)) dX6_allCopies_18 ⟨Nat.le_of_ble_eq_true rfl, Nat.le_of_ble_eq_true rfl⟩) hD hS hA (fun H locs hP hD hS => ?_)
      refine lv_iadd hx hb dX6_allCopies_21 ?_
      refine lv_topi (fun v3 ev3 => ?_)
      have h := nmS h ev3
      refine lv_istore_n (lv' := [(1, .int v3), (0, .ref (ad 18)), (2, .int x2)]) hx hb dX6_allCopies_22 rfl hl (by decide) rfl (fun ls hl => ?_)
      have hl := lv_sub hl [1, 0, 2] (l' := [(0, .ref (ad 18)), (1, .int v3), (2, .int x2)]) rfl
      obtain ⟨v4, ev4⟩ : ∃ y : Int32, y = x2 + 1 := ⟨_, rfl⟩
      have h := nmS h ev4
      refine lv_iinc (v := v4) (lv' := [(2, .int v4), (0, .ref (ad 18)), (1, .int v3)]) hx hb dX6_allCopies_23 hl (k := 2) rfl (by rw [ev4]; rfl) (by decide) rfl (fun ls hl => ?_)
      have hl := lv_sub hl [1, 2, 0] (l' := [(0, .ref (ad 18)), (1, .int v3), (2, .int v4)]) rfl
      refine lv_goto (tgt := 4) hx hb dX6_allCopies_26 (by decide) ?_
      exact ih σ v3 v4 H locs ls h hP hD hS hl
  have w0 : ∀ (σ : S2)  (H : Heap) (locs : List Loc) (ls : Array Slot), fX6_allCopies_0 τ σ = some r0 → va_P (dC, dI) vwCl (wG (cC cy ad τ) ad (182 + 6 * nb) σ) H → va_D A (wG (cC cy ad τ) ad (182 + 6 * nb) σ) → va_S A s.heap H locs → lv_has ls 3 [(0, .ref (ad 18))] → W p l e (headSpec wsX6_allCopies ({ frames := 3, cells := 0, slots := 0, locals := 69 })).room s m (#[.ref (ad 18)]) below meth c H locs 0 0 (MQ below (va_Qi (fun (r : Int32) (_ : Unit) => r = r0) (fun (_ : Unit) t => wAt (dC, dI) A (wG (cC cy ad τ) ad (182 + 6 * nb) σ) t) A) (#[.ref (ad 18)]) s 0 0 A) (F0 m 0 ls []) := by
    intro σ H locs ls h hP hD hS hl
    unfold fX6_allCopies_0 at h
    refine lv_iconst (v := 0) hx hb dX6_allCopies_0 (by decide) ?_
    refine lv_istore_n (lv' := [(1, .int 0), (0, .ref (ad 18))]) hx hb dX6_allCopies_1 rfl hl (by decide) rfl (fun ls hl => ?_)
    have hl := lv_sub hl [1, 0] (l' := [(0, .ref (ad 18)), (1, .int 0)]) rfl
    refine lv_iconst (v := 0) hx hb dX6_allCopies_2 (by decide) ?_
    refine lv_istore_n (lv' := [(2, .int 0), (0, .ref (ad 18)), (1, .int 0)]) hx hb dX6_allCopies_3 rfl hl (by decide) rfl (fun ls hl => ?_)
    have hl := lv_sub hl [1, 2, 0] (l' := [(0, .ref (ad 18)), (1, .int 0), (2, .int 0)]) rfl
    exact w4 FU σ 0 0 H locs ls h hP hD hS hl
  intro H locs ls h hP hD hS hl
  exact w0 σ H locs ls h hP hD hS (lv_sub hl [0] rfl)

set_option maxHeartbeats 4000000 in
set_option maxRecDepth 100000 in
theorem tX6_allKept (l : Launch) (dC : Nat → ClassId) (dI : Nat → Nat → Nat) (cy : Nat → ClassId) (ad : Nat → Nat) (τ nb : Nat) (hτ : τ < nb) (σ : S2)  (sz : Nat) (r0 : Int32) (h : fX6_allKept τ σ = some r0) : Met l yX6_allKept wsX6_allKept ({ frames := 3, cells := 0, slots := 0, locals := 69 }) (va_Pc [.ref (ad 18)] (wPre (dC, dI) cy (wG (cC cy ad τ) ad (182 + 6 * nb) σ) sz)) (va_Qi (fun (r : Int32) (_ : Unit) => r = r0) (fun (_ : Unit) t => wAt (dC, dI) (va_A (wG (cC cy ad τ) ad (182 + 6 * nb) σ) sz) (wG (cC cy ad τ) ad (182 + 6 * nb) σ) t) (va_A (wG (cC cy ad τ) ad (182 + 6 * nb) σ) sz)) 0 0 (va_A (wG (cC cy ad τ) ad (182 + 6 * nb) σ) sz) := by
  refine Met.ofW (cc := cX6_allKept) (maxL := 3) (ret := (some .int)) (by decide) rfl ?_
  intro p e s m args below meth c s₁ B hml hv
  obtain ⟨rfl, hsz, hP, hK, hD0, hN⟩ := hv
  have hx := B.exec
  have hb := B.bytes
  have hr := B.returns
  have hts := atoms_spec (ws := wsX6_allKept) B.pre
  have hown : s.vm.findClass RX6 = some m.cls := findClass_of_methodNamed B.named
  have hlocks := B.notSynchronized
  subst hsz
  have hD := hD0.self (sz := s.heap.size)
  generalize hAe : va_A (wG (cC cy ad τ) ad (182 + 6 * nb) σ) s.heap.size = A at hD ⊢
  have hA : ∀ q : Nat, s.heap.size ≤ q → A q := fun q h => by rw [← hAe]; exact Or.inr h
  have hS : va_S A s.heap s.heap [] := va_S.rf
  have hl := lv_entry ([.ref (ad 18)]) (n := 3) (Nat.le_of_ble_eq_true rfl)
  rw [lg_entry_eq]
  generalize (lg_sl ([.ref (ad 18)]) ++ List.replicate (3 - (lg_sl ([.ref (ad 18)])).length) Slot.unset).toArray = ls at hl ⊢
  have hl : lv_has ls 3 [(0, .ref (ad 18))] := hl
  unfold fX6_allKept at h
  clear hAe hD0
  suffices HH : ∀ (H : Heap) (locs : List Loc) (ls : Array Slot), fX6_allKept_0 τ σ = some r0 → va_P (dC, dI) vwCl (wG (cC cy ad τ) ad (182 + 6 * nb) σ) H → va_D A (wG (cC cy ad τ) ad (182 + 6 * nb) σ) → va_S A s.heap H locs → lv_has ls 3 [(0, .ref (ad 18))] → W p l e (headSpec wsX6_allKept ({ frames := 3, cells := 0, slots := 0, locals := 69 })).room s m (#[.ref (ad 18)]) below meth c H locs 0 0 (MQ below (va_Qi (fun (r : Int32) (_ : Unit) => r = r0) (fun (_ : Unit) t => wAt (dC, dI) A (wG (cC cy ad τ) ad (182 + 6 * nb) σ) t) A) (#[.ref (ad 18)]) s 0 0 A) (F0 m 0 ls []) from HH s.heap [] ls h hP hD hS hl
  have w4 : ∀ (n : Nat), ∀ (σ : S2) (x1 : Int32) (x2 : Int32) (H : Heap) (locs : List Loc) (ls : Array Slot), fX6_allKept_4 τ n σ x1 x2 = some r0 → va_P (dC, dI) vwCl (wG (cC cy ad τ) ad (182 + 6 * nb) σ) H → va_D A (wG (cC cy ad τ) ad (182 + 6 * nb) σ) → va_S A s.heap H locs → lv_has ls 3 [(0, .ref (ad 18)), (1, .int x1), (2, .int x2)] → W p l e (headSpec wsX6_allKept ({ frames := 3, cells := 0, slots := 0, locals := 69 })).room s m (#[.ref (ad 18)]) below meth c H locs 0 0 (MQ below (va_Qi (fun (r : Int32) (_ : Unit) => r = r0) (fun (_ : Unit) t => wAt (dC, dI) A (wG (cC cy ad τ) ad (182 + 6 * nb) σ) t) A) (#[.ref (ad 18)]) s 0 0 A) (F0 m 4 ls []) := by
    intro n
    induction n with
    | zero => intro σ x1 x2 H locs ls h; cases h
    | succ n ih =>
    intro σ x1 x2 H locs ls h hP hD hS hl
    unfold fX6_allKept_4 at h
    refine lv_iload_n hx hb dX6_allKept_4 rfl (lv_at hl 2 rfl) ?_
    refine lv_aload_n hx hb dX6_allKept_5 rfl (lv_at hl 0 rfl) ?_
    refine ux_get (D := (dC, dI)) (ci := 6) (v := .ref (ad 7)) (C := RX6) (T := TX6) (M := 12) (fs := (oPC ad (σ.1 18))) hx hb hts (fun _ h9 => List.mem_cons_of_mem _ (List.mem_append_left _ (List.mem_append_right _ h9))) hown hK hP 18 (Nat.lt_of_lt_of_le (Nat.le_of_ble_eq_true rfl : 18 < 182) (Nat.le_add_right _ _)) (cC_18 _ _ _ _ _) rfl 9 (by decide) (hts (.fieldLink RX6 42 "SeatsRound$Parcels" "keepers" "LSeatsRound$Keepers;") (List.mem_of_getElem? (i := 1) rfl)) (fun _ h9 => h9) rfl dX6_allKept_6 ?_
    refine ux_get (D := (dC, dI)) (ci := 2) (v := .int (σ.1 7 5)) (C := RX2) (T := TX2) (M := 6) (fs := (oKP ad (σ.1 7))) hx hb hts (fun _ h9 => List.mem_cons_of_mem _ (List.mem_append_right _ h9)) hown hK hP 7 (Nat.lt_of_lt_of_le (Nat.le_of_ble_eq_true rfl : 7 < 182) (Nat.le_add_right _ _)) (cC_7 _ _ _ _ _) rfl 5 (by decide) (hts (.fieldLink RX6 120 "SeatsRound$Keepers" "count" "I") (List.mem_of_getElem? (i := 2) rfl)) (fun _ h9 => h9) rfl dX6_allKept_9 ?_
    refine lv_icmp_ge (tgt := 29) hx hb dX6_allKept_12 (by decide) (fun hcd => ?_) (fun hcd => ?_)
    · have h := cdP hcd h
      refine lv_iload_n hx hb dX6_allKept_29 rfl (lv_at hl 1 rfl) ?_
      exact ux_iretP hx hb hr h hP hD hS hlocks dX6_allKept_30
    · have h := cdN hcd h
      refine lv_iload_n hx hb dX6_allKept_15 rfl (lv_at hl 1 rfl) ?_
      refine lv_aload_n hx hb dX6_allKept_16 rfl (lv_at hl 0 rfl) ?_
      refine lv_iload_n hx hb dX6_allKept_17 rfl (lv_at hl 2 rfl) ?_
      obtain ⟨r1, hf2, h⟩ := biS h
      refine ux_calli (va_runV (As := [.int x2]) (rest := [.int x1]) ⟨hx, hb, hml, hown, hts⟩ (tX6_keptBy l dC dI cy ad τ nb hτ σ x2 H.size r1 hf2) (cwV 1 hts gX6_allKept_X6_keptBy rfl rfl rfl (by decide +kernel) ⟨Nat.le_of_ble_eq_true rfl, Nat.le_of_ble_eq_true rfl⟩) (wp_V hK hN hP hD (va_recv hK hP (ci := 6) (q0 := 18) rfl (wG_of (Nat.lt_of_lt_of_le (Nat.le_of_ble_eq_true rfl : 18 < 182) (Nat.le_add_right _ _)) (cC_18 _ _ _ _ _)))) rfl rfl hl.1 rfl (lv_room (Nat.le_of_ble_eq_true rfl)) dX6_allKept_18 ⟨Nat.le_of_ble_eq_true rfl, Nat.le_of_ble_eq_true rfl⟩) hD hS hA (fun H locs hP hD hS => ?_)
      refine lv_iadd hx hb dX6_allKept_21 ?_
      refine lv_topi (fun v3 ev3 => ?_)
      have h := nmS h ev3
      refine lv_istore_n (lv' := [(1, .int v3), (0, .ref (ad 18)), (2, .int x2)]) hx hb dX6_allKept_22 rfl hl (by decide) rfl (fun ls hl => ?_)
      have hl := lv_sub hl [1, 0, 2] (l' := [(0, .ref (ad 18)), (1, .int v3), (2, .int x2)]) rfl
      obtain ⟨v4, ev4⟩ : ∃ y : Int32, y = x2 + 1 := ⟨_, rfl⟩
      have h := nmS h ev4
      refine lv_iinc (v := v4) (lv' := [(2, .int v4), (0, .ref (ad 18)), (1, .int v3)]) hx hb dX6_allKept_23 hl (k := 2) rfl (by rw [ev4]; rfl) (by decide) rfl (fun ls hl => ?_)
      have hl := lv_sub hl [1, 2, 0] (l' := [(0, .ref (ad 18)), (1, .int v3), (2, .int v4)]) rfl
      refine lv_goto (tgt := 4) hx hb dX6_allKept_26 (by decide) ?_
      exact ih σ v3 v4 H locs ls h hP hD hS hl
  have w0 : ∀ (σ : S2)  (H : Heap) (locs : List Loc) (ls : Array Slot), fX6_allKept_0 τ σ = some r0 → va_P (dC, dI) vwCl (wG (cC cy ad τ) ad (182 + 6 * nb) σ) H → va_D A (wG (cC cy ad τ) ad (182 + 6 * nb) σ) → va_S A s.heap H locs → lv_has ls 3 [(0, .ref (ad 18))] → W p l e (headSpec wsX6_allKept ({ frames := 3, cells := 0, slots := 0, locals := 69 })).room s m (#[.ref (ad 18)]) below meth c H locs 0 0 (MQ below (va_Qi (fun (r : Int32) (_ : Unit) => r = r0) (fun (_ : Unit) t => wAt (dC, dI) A (wG (cC cy ad τ) ad (182 + 6 * nb) σ) t) A) (#[.ref (ad 18)]) s 0 0 A) (F0 m 0 ls []) := by
    intro σ H locs ls h hP hD hS hl
    unfold fX6_allKept_0 at h
    refine lv_iconst (v := 0) hx hb dX6_allKept_0 (by decide) ?_
    refine lv_istore_n (lv' := [(1, .int 0), (0, .ref (ad 18))]) hx hb dX6_allKept_1 rfl hl (by decide) rfl (fun ls hl => ?_)
    have hl := lv_sub hl [1, 0] (l' := [(0, .ref (ad 18)), (1, .int 0)]) rfl
    refine lv_iconst (v := 0) hx hb dX6_allKept_2 (by decide) ?_
    refine lv_istore_n (lv' := [(2, .int 0), (0, .ref (ad 18)), (1, .int 0)]) hx hb dX6_allKept_3 rfl hl (by decide) rfl (fun ls hl => ?_)
    have hl := lv_sub hl [1, 2, 0] (l' := [(0, .ref (ad 18)), (1, .int 0), (2, .int 0)]) rfl
    exact w4 FU σ 0 0 H locs ls h hP hD hS hl
  intro H locs ls h hP hD hS hl
  exact w0 σ H locs ls h hP hD hS (lv_sub hl [0] rfl)

set_option maxHeartbeats 4000000 in
set_option maxRecDepth 100000 in
theorem tX7_holdKeeper (l : Launch) (dC : Nat → ClassId) (dI : Nat → Nat → Nat) (cy : Nat → ClassId) (ad : Nat → Nat) (τ nb : Nat) (hτ : τ < nb) (σ : S2) (a1 : Int32) (a2 : Int32) (sz : Nat) (r0 : Unit) (σ9 : S2) (h : fX7_holdKeeper τ σ a1 a2 = some (r0, σ9)) : Met l yX7_holdKeeper wsX7_holdKeeper ({ frames := 1, cells := 0, slots := 0, locals := 23 }) (va_Pc [.ref (ad 37), .int a1, .int a2] (wPre (dC, dI) cy (wG (cC cy ad τ) ad (182 + 6 * nb) σ) sz)) (va_Qv (fun (_ : Unit) => True) (fun (_ : Unit) t => wAt (dC, dI) (va_A (wG (cC cy ad τ) ad (182 + 6 * nb) σ) sz) (wG (cC cy ad τ) ad (182 + 6 * nb) σ9) t) (va_A (wG (cC cy ad τ) ad (182 + 6 * nb) σ) sz)) 0 0 (va_A (wG (cC cy ad τ) ad (182 + 6 * nb) σ) sz) := by
  refine Met.ofW (cc := cX7_holdKeeper) (maxL := 3) (ret := none) (by decide) rfl ?_
  intro p e s m args below meth c s₁ B hml hv
  obtain ⟨rfl, hsz, hP, hK, hD0, hN⟩ := hv
  have hx := B.exec
  have hb := B.bytes
  have hr := B.returns
  have hts := atoms_spec (ws := wsX7_holdKeeper) B.pre
  have hown : s.vm.findClass RX7 = some m.cls := findClass_of_methodNamed B.named
  have hlocks := B.notSynchronized
  subst hsz
  have hD := hD0.self (sz := s.heap.size)
  generalize hAe : va_A (wG (cC cy ad τ) ad (182 + 6 * nb) σ) s.heap.size = A at hD ⊢
  have hA : ∀ q : Nat, s.heap.size ≤ q → A q := fun q h => by rw [← hAe]; exact Or.inr h
  have hS : va_S A s.heap s.heap [] := va_S.rf
  have hl := lv_entry ([.ref (ad 37), .int a1, .int a2]) (n := 3) (Nat.le_of_ble_eq_true rfl)
  rw [lg_entry_eq]
  generalize (lg_sl ([.ref (ad 37), .int a1, .int a2]) ++ List.replicate (3 - (lg_sl ([.ref (ad 37), .int a1, .int a2])).length) Slot.unset).toArray = ls at hl ⊢
  have hl : lv_has ls 3 [(0, .ref (ad 37)), (1, .int a1), (2, .int a2)] := hl
  unfold fX7_holdKeeper at h
  clear hAe hD0
  suffices HH : ∀ (H : Heap) (locs : List Loc) (ls : Array Slot), fX7_holdKeeper_0 τ σ a1 a2 = some (r0, σ9) → va_P (dC, dI) vwCl (wG (cC cy ad τ) ad (182 + 6 * nb) σ) H → va_D A (wG (cC cy ad τ) ad (182 + 6 * nb) σ) → va_S A s.heap H locs → lv_has ls 3 [(0, .ref (ad 37)), (1, .int a1), (2, .int a2)] → W p l e (headSpec wsX7_holdKeeper ({ frames := 1, cells := 0, slots := 0, locals := 23 })).room s m (#[.ref (ad 37), .int a1, .int a2]) below meth c H locs 0 0 (MQ below (va_Qv (fun (_ : Unit) => True) (fun (_ : Unit) t => wAt (dC, dI) A (wG (cC cy ad τ) ad (182 + 6 * nb) σ9) t) A) (#[.ref (ad 37), .int a1, .int a2]) s 0 0 A) (F0 m 0 ls []) from HH s.heap [] ls h hP hD hS hl
  have w0 : ∀ (σ : S2) (x1 : Int32) (x2 : Int32) (H : Heap) (locs : List Loc) (ls : Array Slot), fX7_holdKeeper_0 τ σ x1 x2 = some (r0, σ9) → va_P (dC, dI) vwCl (wG (cC cy ad τ) ad (182 + 6 * nb) σ) H → va_D A (wG (cC cy ad τ) ad (182 + 6 * nb) σ) → va_S A s.heap H locs → lv_has ls 3 [(0, .ref (ad 37)), (1, .int x1), (2, .int x2)] → W p l e (headSpec wsX7_holdKeeper ({ frames := 1, cells := 0, slots := 0, locals := 23 })).room s m (#[.ref (ad 37), .int a1, .int a2]) below meth c H locs 0 0 (MQ below (va_Qv (fun (_ : Unit) => True) (fun (_ : Unit) t => wAt (dC, dI) A (wG (cC cy ad τ) ad (182 + 6 * nb) σ9) t) A) (#[.ref (ad 37), .int a1, .int a2]) s 0 0 A) (F0 m 0 ls []) := by
    intro σ x1 x2 H locs ls h hP hD hS hl
    unfold fX7_holdKeeper_0 at h
    refine lv_aload_n hx hb dX7_holdKeeper_0 rfl (lv_at hl 0 rfl) ?_
    refine ux_get (D := (dC, dI)) (ci := 7) (v := .ref (ad 38)) (C := RX7) (T := TX7) (M := 4) (fs := (oRW ad (σ.1 37))) hx hb hts (fun _ h9 => List.mem_cons_of_mem _ (List.mem_append_right _ h9)) hown hK hP 37 (Nat.lt_of_lt_of_le (Nat.le_of_ble_eq_true rfl : 37 < 182) (Nat.le_add_right _ _)) (cC_37 _ _ _ _ _) rfl 0 (by decide) (hts (.fieldLink RX7 9 "SeatsRound$Rows" "keeper" "[I") (List.mem_of_getElem? (i := 1) rfl)) (fun _ h9 => h9) rfl dX7_holdKeeper_1 ?_
    refine lv_iload_n hx hb dX7_holdKeeper_4 rfl (lv_at hl 1 rfl) ?_
    refine lv_iload_n hx hb dX7_holdKeeper_5 rfl (lv_at hl 2 rfl) ?_
    refine ux_iast hx hb hK hP hD hS 38 0 (Nat.lt_of_lt_of_le (Nat.le_of_ble_eq_true rfl : 38 < 182) (Nat.le_add_right _ _)) (fun _ => (cC_38 _ _ _ _ _)) rfl h dX7_holdKeeper_6 (fun σ1 H locs h hP hD hS => ?_)
    refine lv_aload_n hx hb dX7_holdKeeper_7 rfl (lv_at hl 0 rfl) ?_
    refine ux_get (D := (dC, dI)) (ci := 7) (v := .ref (ad 39)) (C := RX7) (T := TX7) (M := 4) (fs := (oRW ad (σ1.1 37))) hx hb hts (fun _ h9 => List.mem_cons_of_mem _ (List.mem_append_right _ h9)) hown hK hP 37 (Nat.lt_of_lt_of_le (Nat.le_of_ble_eq_true rfl : 37 < 182) (Nat.le_add_right _ _)) (cC_37 _ _ _ _ _) rfl 1 (by decide) (hts (.fieldLink RX7 15 "SeatsRound$Rows" "sort" "[I") (List.mem_of_getElem? (i := 2) rfl)) (fun _ h9 => h9) rfl dX7_holdKeeper_8 ?_
    refine lv_iload_n hx hb dX7_holdKeeper_11 rfl (lv_at hl 1 rfl) ?_
    refine lv_iconst (v := (-1)) hx hb dX7_holdKeeper_12 (by decide) ?_
    refine ux_iast hx hb hK hP hD hS 39 0 (Nat.lt_of_lt_of_le (Nat.le_of_ble_eq_true rfl : 39 < 182) (Nat.le_add_right _ _)) (fun _ => (cC_39 _ _ _ _ _)) rfl h dX7_holdKeeper_13 (fun σ2 H locs h hP hD hS => ?_)
    refine lv_aload_n hx hb dX7_holdKeeper_14 rfl (lv_at hl 0 rfl) ?_
    refine ux_get (D := (dC, dI)) (ci := 7) (v := .ref (ad 40)) (C := RX7) (T := TX7) (M := 4) (fs := (oRW ad (σ2.1 37))) hx hb hts (fun _ h9 => List.mem_cons_of_mem _ (List.mem_append_right _ h9)) hown hK hP 37 (Nat.lt_of_lt_of_le (Nat.le_of_ble_eq_true rfl : 37 < 182) (Nat.le_add_right _ _)) (cC_37 _ _ _ _ _) rfl 2 (by decide) (hts (.fieldLink RX7 18 "SeatsRound$Rows" "length" "[I") (List.mem_of_getElem? (i := 3) rfl)) (fun _ h9 => h9) rfl dX7_holdKeeper_15 ?_
    refine lv_iload_n hx hb dX7_holdKeeper_18 rfl (lv_at hl 1 rfl) ?_
    refine lv_iconst (v := 0) hx hb dX7_holdKeeper_19 (by decide) ?_
    refine ux_iast hx hb hK hP hD hS 40 0 (Nat.lt_of_lt_of_le (Nat.le_of_ble_eq_true rfl : 40 < 182) (Nat.le_add_right _ _)) (fun _ => (cC_40 _ _ _ _ _)) rfl h dX7_holdKeeper_20 (fun σ3 H locs h hP hD hS => ?_)
    exact ux_vret hx hb hr h hP hD hS hlocks dX7_holdKeeper_21
  intro H locs ls h hP hD hS hl
  exact w0 σ a1 a2 H locs ls h hP hD hS (lv_sub hl [0, 1, 2] rfl)

set_option maxHeartbeats 4000000 in
set_option maxRecDepth 100000 in
theorem tJ7_fill_d0a16 (l : Launch) (dC : Nat → ClassId) (dI : Nat → Nat → Nat) (cy : Nat → ClassId) (ad : Nat → Nat) (τ nb : Nat) (hτ : τ < nb) (c0 n0 : Nat) (hc0 : c0 < 182 + 6 * nb) (hs0 : ∀ (g : Nat → Int32) (q : Nat → Int64), cC cy ad τ c0 g q = .inl (cy 4, n0, .inr (.inl q))) (σ : S2) (a1 : Int64) (sz : Nat) (r0 : Unit) (σ9 : S2) (h : fJ7_fill_d0a16 τ c0 n0 σ a1 = some (r0, σ9)) : Met l yJ7_fill_d0a16 wsJ7_fill_d0a16 ({ frames := 1, cells := 0, slots := 0, locals := 23 }) (va_Pc [.ref (ad c0), .long a1] (wPre (dC, dI) cy (wG (cC cy ad τ) ad (182 + 6 * nb) σ) sz)) (va_Qv (fun (_ : Unit) => True) (fun (_ : Unit) t => wAt (dC, dI) (va_A (wG (cC cy ad τ) ad (182 + 6 * nb) σ) sz) (wG (cC cy ad τ) ad (182 + 6 * nb) σ9) t) (va_A (wG (cC cy ad τ) ad (182 + 6 * nb) σ) sz)) 0 0 (va_A (wG (cC cy ad τ) ad (182 + 6 * nb) σ) sz) := by
  refine Met.ofW (cc := cJ7_fill_d0a16) (maxL := 5) (ret := none) (by decide) rfl ?_
  intro p e s m args below meth c s₁ B hml hv
  obtain ⟨rfl, hsz, hP, hK, hD0, hN⟩ := hv
  have hx := B.exec
  have hb := B.bytes
  have hr := B.returns
  have hts := atoms_spec (ws := wsJ7_fill_d0a16) B.pre
  have hown : s.vm.findClass RJ7 = some m.cls := findClass_of_methodNamed B.named
  have hlocks := B.notSynchronized
  subst hsz
  have hD := hD0.self (sz := s.heap.size)
  generalize hAe : va_A (wG (cC cy ad τ) ad (182 + 6 * nb) σ) s.heap.size = A at hD ⊢
  have hA : ∀ q : Nat, s.heap.size ≤ q → A q := fun q h => by rw [← hAe]; exact Or.inr h
  have hS : va_S A s.heap s.heap [] := va_S.rf
  have hl := lv_entry ([.ref (ad c0), .long a1]) (n := 5) (Nat.le_of_ble_eq_true rfl)
  rw [lg_entry_eq]
  generalize (lg_sl ([.ref (ad c0), .long a1]) ++ List.replicate (5 - (lg_sl ([.ref (ad c0), .long a1])).length) Slot.unset).toArray = ls at hl ⊢
  have hl : lv_has ls 5 [(0, .ref (ad c0)), (1, .long a1)] := hl
  unfold fJ7_fill_d0a16 at h
  clear hAe hD0
  suffices HH : ∀ (H : Heap) (locs : List Loc) (ls : Array Slot), fJ7_fill_d0a16_0 τ c0 n0 σ a1 = some (r0, σ9) → va_P (dC, dI) vwCl (wG (cC cy ad τ) ad (182 + 6 * nb) σ) H → va_D A (wG (cC cy ad τ) ad (182 + 6 * nb) σ) → va_S A s.heap H locs → lv_has ls 5 [(0, .ref (ad c0)), (1, .long a1)] → W p l e (headSpec wsJ7_fill_d0a16 ({ frames := 1, cells := 0, slots := 0, locals := 23 })).room s m (#[.ref (ad c0), .long a1]) below meth c H locs 0 0 (MQ below (va_Qv (fun (_ : Unit) => True) (fun (_ : Unit) t => wAt (dC, dI) A (wG (cC cy ad τ) ad (182 + 6 * nb) σ9) t) A) (#[.ref (ad c0), .long a1]) s 0 0 A) (F0 m 0 ls []) from HH s.heap [] ls h hP hD hS hl
  have w6 : ∀ (n : Nat), ∀ (σ : S2) (x1 : Int64) (x3 : Int32) (x4 : Int32) (H : Heap) (locs : List Loc) (ls : Array Slot), fJ7_fill_d0a16_6 τ c0 n0 n σ x1 x3 x4 = some (r0, σ9) → va_P (dC, dI) vwCl (wG (cC cy ad τ) ad (182 + 6 * nb) σ) H → va_D A (wG (cC cy ad τ) ad (182 + 6 * nb) σ) → va_S A s.heap H locs → lv_has ls 5 [(0, .ref (ad c0)), (1, .long x1), (3, .int x3), (4, .int x4)] → W p l e (headSpec wsJ7_fill_d0a16 ({ frames := 1, cells := 0, slots := 0, locals := 23 })).room s m (#[.ref (ad c0), .long a1]) below meth c H locs 0 0 (MQ below (va_Qv (fun (_ : Unit) => True) (fun (_ : Unit) t => wAt (dC, dI) A (wG (cC cy ad τ) ad (182 + 6 * nb) σ9) t) A) (#[.ref (ad c0), .long a1]) s 0 0 A) (F0 m 6 ls []) := by
    intro n
    induction n with
    | zero => intro σ x1 x3 x4 H locs ls h; cases h
    | succ n ih =>
    intro σ x1 x3 x4 H locs ls h hP hD hS hl
    unfold fJ7_fill_d0a16_6 at h
    refine lv_iload_n hx hb dJ7_fill_d0a16_6 rfl (lv_at hl 2 rfl) ?_
    refine lv_iload hx hb dJ7_fill_d0a16_7 (lv_at hl 3 rfl) ?_
    refine lv_icmp_ge (tgt := 22) hx hb dJ7_fill_d0a16_9 (by decide) (fun hcd => ?_) (fun hcd => ?_)
    · have h := cdP hcd h
      exact ux_vret hx hb hr h hP hD hS hlocks dJ7_fill_d0a16_22
    · have h := cdN hcd h
      refine lv_aload_n hx hb dJ7_fill_d0a16_12 rfl (lv_at hl 0 rfl) ?_
      refine lv_iload_n hx hb dJ7_fill_d0a16_13 rfl (lv_at hl 2 rfl) ?_
      refine lv_lload_n hx hb dJ7_fill_d0a16_14 rfl (lv_at hl 1 rfl) ?_
      refine ux_last hx hb hK hP hD hS c0 4 hc0 (fun _ => (hs0 _ _)) rfl h dJ7_fill_d0a16_15 (fun σ1 H locs h hP hD hS => ?_)
      obtain ⟨v2, ev2⟩ : ∃ y : Int32, y = x3 + 1 := ⟨_, rfl⟩
      have h := nmS h ev2
      refine lv_iinc (v := v2) (lv' := [(3, .int v2), (0, .ref (ad c0)), (1, .long x1), (4, .int x4)]) hx hb dJ7_fill_d0a16_16 hl (k := 2) rfl (by rw [ev2]; rfl) (by decide) rfl (fun ls hl => ?_)
      have hl := lv_sub hl [1, 2, 0, 3] (l' := [(0, .ref (ad c0)), (1, .long x1), (3, .int v2), (4, .int x4)]) rfl
      refine lv_goto (tgt := 6) hx hb dJ7_fill_d0a16_19 (by decide) ?_
      exact ih σ1 x1 v2 x4 H locs ls h hP hD hS hl
  have w0 : ∀ (σ : S2) (x1 : Int64) (H : Heap) (locs : List Loc) (ls : Array Slot), fJ7_fill_d0a16_0 τ c0 n0 σ x1 = some (r0, σ9) → va_P (dC, dI) vwCl (wG (cC cy ad τ) ad (182 + 6 * nb) σ) H → va_D A (wG (cC cy ad τ) ad (182 + 6 * nb) σ) → va_S A s.heap H locs → lv_has ls 5 [(0, .ref (ad c0)), (1, .long x1)] → W p l e (headSpec wsJ7_fill_d0a16 ({ frames := 1, cells := 0, slots := 0, locals := 23 })).room s m (#[.ref (ad c0), .long a1]) below meth c H locs 0 0 (MQ below (va_Qv (fun (_ : Unit) => True) (fun (_ : Unit) t => wAt (dC, dI) A (wG (cC cy ad τ) ad (182 + 6 * nb) σ9) t) A) (#[.ref (ad c0), .long a1]) s 0 0 A) (F0 m 0 ls []) := by
    intro σ x1 H locs ls h hP hD hS hl
    unfold fJ7_fill_d0a16_0 at h
    refine lv_iconst (v := 0) hx hb dJ7_fill_d0a16_0 (by decide) ?_
    refine lv_istore_n (lv' := [(3, .int 0), (0, .ref (ad c0)), (1, .long x1)]) hx hb dJ7_fill_d0a16_1 rfl hl (by decide) rfl (fun ls hl => ?_)
    have hl := lv_sub hl [1, 2, 0] (l' := [(0, .ref (ad c0)), (1, .long x1), (3, .int 0)]) rfl
    refine lv_aload_n hx hb dJ7_fill_d0a16_2 rfl (lv_at hl 0 rfl) ?_
    refine ux_alen (v := Int32.ofNat n0) hx hb hK hP c0 4 hc0 (hs0 _ _) rfl rfl dJ7_fill_d0a16_3 ?_
    refine lv_topi (fun v3 ev3 => ?_)
    have h := nmS h ev3
    refine lv_istore (lv' := [(4, .int v3), (0, .ref (ad c0)), (1, .long x1), (3, .int 0)]) hx hb dJ7_fill_d0a16_4 hl (by decide) rfl (fun ls hl => ?_)
    have hl := lv_sub hl [1, 2, 3, 0] (l' := [(0, .ref (ad c0)), (1, .long x1), (3, .int 0), (4, .int v3)]) rfl
    exact w6 FU σ x1 0 v3 H locs ls h hP hD hS hl
  intro H locs ls h hP hD hS hl
  exact w0 σ a1 H locs ls h hP hD hS (lv_sub hl [0, 1] rfl)

set_option maxHeartbeats 4000000 in
set_option maxRecDepth 100000 in
theorem tX7_holdRow (l : Launch) (dC : Nat → ClassId) (dI : Nat → Nat → Nat) (cy : Nat → ClassId) (ad : Nat → Nat) (τ nb : Nat) (hτ : τ < nb) (σ : S2) (a1 : Int32) (a2 : Int32) (a3 : Int32) (sz : Nat) (r0 : Unit) (σ9 : S2) (h : fX7_holdRow τ σ a1 a2 a3 = some (r0, σ9)) : Met l yX7_holdRow wsX7_holdRow ({ frames := 2, cells := 0, slots := 0, locals := 47 }) (va_Pc [.ref (ad 37), .int a1, .int a2, .int a3] (wPre (dC, dI) cy (wG (cC cy ad τ) ad (182 + 6 * nb) σ) sz)) (va_Qv (fun (_ : Unit) => True) (fun (_ : Unit) t => wAt (dC, dI) (va_A (wG (cC cy ad τ) ad (182 + 6 * nb) σ) sz) (wG (cC cy ad τ) ad (182 + 6 * nb) σ9) t) (va_A (wG (cC cy ad τ) ad (182 + 6 * nb) σ) sz)) 0 0 (va_A (wG (cC cy ad τ) ad (182 + 6 * nb) σ) sz) := by
  refine Met.ofW (cc := cX7_holdRow) (maxL := 4) (ret := none) (by decide) rfl ?_
  intro p e s m args below meth c s₁ B hml hv
  obtain ⟨rfl, hsz, hP, hK, hD0, hN⟩ := hv
  have hx := B.exec
  have hb := B.bytes
  have hr := B.returns
  have hts := atoms_spec (ws := wsX7_holdRow) B.pre
  have hown : s.vm.findClass RX7 = some m.cls := findClass_of_methodNamed B.named
  have hlocks := B.notSynchronized
  subst hsz
  have hD := hD0.self (sz := s.heap.size)
  generalize hAe : va_A (wG (cC cy ad τ) ad (182 + 6 * nb) σ) s.heap.size = A at hD ⊢
  have hA : ∀ q : Nat, s.heap.size ≤ q → A q := fun q h => by rw [← hAe]; exact Or.inr h
  have hS : va_S A s.heap s.heap [] := va_S.rf
  have hl := lv_entry ([.ref (ad 37), .int a1, .int a2, .int a3]) (n := 4) (Nat.le_of_ble_eq_true rfl)
  rw [lg_entry_eq]
  generalize (lg_sl ([.ref (ad 37), .int a1, .int a2, .int a3]) ++ List.replicate (4 - (lg_sl ([.ref (ad 37), .int a1, .int a2, .int a3])).length) Slot.unset).toArray = ls at hl ⊢
  have hl : lv_has ls 4 [(0, .ref (ad 37)), (1, .int a1), (2, .int a2), (3, .int a3)] := hl
  unfold fX7_holdRow at h
  clear hAe hD0
  suffices HH : ∀ (H : Heap) (locs : List Loc) (ls : Array Slot), fX7_holdRow_0 τ σ a1 a2 a3 = some (r0, σ9) → va_P (dC, dI) vwCl (wG (cC cy ad τ) ad (182 + 6 * nb) σ) H → va_D A (wG (cC cy ad τ) ad (182 + 6 * nb) σ) → va_S A s.heap H locs → lv_has ls 4 [(0, .ref (ad 37)), (1, .int a1), (2, .int a2), (3, .int a3)] → W p l e (headSpec wsX7_holdRow ({ frames := 2, cells := 0, slots := 0, locals := 47 })).room s m (#[.ref (ad 37), .int a1, .int a2, .int a3]) below meth c H locs 0 0 (MQ below (va_Qv (fun (_ : Unit) => True) (fun (_ : Unit) t => wAt (dC, dI) A (wG (cC cy ad τ) ad (182 + 6 * nb) σ9) t) A) (#[.ref (ad 37), .int a1, .int a2, .int a3]) s 0 0 A) (F0 m 0 ls []) from HH s.heap [] ls h hP hD hS hl
  have w0 : ∀ (σ : S2) (x1 : Int32) (x2 : Int32) (x3 : Int32) (H : Heap) (locs : List Loc) (ls : Array Slot), fX7_holdRow_0 τ σ x1 x2 x3 = some (r0, σ9) → va_P (dC, dI) vwCl (wG (cC cy ad τ) ad (182 + 6 * nb) σ) H → va_D A (wG (cC cy ad τ) ad (182 + 6 * nb) σ) → va_S A s.heap H locs → lv_has ls 4 [(0, .ref (ad 37)), (1, .int x1), (2, .int x2), (3, .int x3)] → W p l e (headSpec wsX7_holdRow ({ frames := 2, cells := 0, slots := 0, locals := 47 })).room s m (#[.ref (ad 37), .int a1, .int a2, .int a3]) below meth c H locs 0 0 (MQ below (va_Qv (fun (_ : Unit) => True) (fun (_ : Unit) t => wAt (dC, dI) A (wG (cC cy ad τ) ad (182 + 6 * nb) σ9) t) A) (#[.ref (ad 37), .int a1, .int a2, .int a3]) s 0 0 A) (F0 m 0 ls []) := by
    intro σ x1 x2 x3 H locs ls h hP hD hS hl
    unfold fX7_holdRow_0 at h
    refine lv_aload_n hx hb dX7_holdRow_0 rfl (lv_at hl 0 rfl) ?_
    refine ux_get (D := (dC, dI)) (ci := 7) (v := .ref (ad 38)) (C := RX7) (T := TX7) (M := 4) (fs := (oRW ad (σ.1 37))) hx hb hts (fun _ h9 => List.mem_cons_of_mem _ (List.mem_append_right _ h9)) hown hK hP 37 (Nat.lt_of_lt_of_le (Nat.le_of_ble_eq_true rfl : 37 < 182) (Nat.le_add_right _ _)) (cC_37 _ _ _ _ _) rfl 0 (by decide) (hts (.fieldLink RX7 9 "SeatsRound$Rows" "keeper" "[I") (List.mem_of_getElem? (i := 1) rfl)) (fun _ h9 => h9) rfl dX7_holdRow_1 ?_
    refine lv_iload_n hx hb dX7_holdRow_4 rfl (lv_at hl 1 rfl) ?_
    refine lv_iconst (v := (-1)) hx hb dX7_holdRow_5 (by decide) ?_
    refine ux_iast hx hb hK hP hD hS 38 0 (Nat.lt_of_lt_of_le (Nat.le_of_ble_eq_true rfl : 38 < 182) (Nat.le_add_right _ _)) (fun _ => (cC_38 _ _ _ _ _)) rfl h dX7_holdRow_6 (fun σ1 H locs h hP hD hS => ?_)
    refine lv_aload_n hx hb dX7_holdRow_7 rfl (lv_at hl 0 rfl) ?_
    refine ux_get (D := (dC, dI)) (ci := 7) (v := .ref (ad 39)) (C := RX7) (T := TX7) (M := 4) (fs := (oRW ad (σ1.1 37))) hx hb hts (fun _ h9 => List.mem_cons_of_mem _ (List.mem_append_right _ h9)) hown hK hP 37 (Nat.lt_of_lt_of_le (Nat.le_of_ble_eq_true rfl : 37 < 182) (Nat.le_add_right _ _)) (cC_37 _ _ _ _ _) rfl 1 (by decide) (hts (.fieldLink RX7 15 "SeatsRound$Rows" "sort" "[I") (List.mem_of_getElem? (i := 2) rfl)) (fun _ h9 => h9) rfl dX7_holdRow_8 ?_
    refine lv_iload_n hx hb dX7_holdRow_11 rfl (lv_at hl 1 rfl) ?_
    refine lv_iload_n hx hb dX7_holdRow_12 rfl (lv_at hl 2 rfl) ?_
    refine ux_iast hx hb hK hP hD hS 39 0 (Nat.lt_of_lt_of_le (Nat.le_of_ble_eq_true rfl : 39 < 182) (Nat.le_add_right _ _)) (fun _ => (cC_39 _ _ _ _ _)) rfl h dX7_holdRow_13 (fun σ2 H locs h hP hD hS => ?_)
    refine lv_aload_n hx hb dX7_holdRow_14 rfl (lv_at hl 0 rfl) ?_
    refine ux_get (D := (dC, dI)) (ci := 7) (v := .ref (ad 40)) (C := RX7) (T := TX7) (M := 4) (fs := (oRW ad (σ2.1 37))) hx hb hts (fun _ h9 => List.mem_cons_of_mem _ (List.mem_append_right _ h9)) hown hK hP 37 (Nat.lt_of_lt_of_le (Nat.le_of_ble_eq_true rfl : 37 < 182) (Nat.le_add_right _ _)) (cC_37 _ _ _ _ _) rfl 2 (by decide) (hts (.fieldLink RX7 18 "SeatsRound$Rows" "length" "[I") (List.mem_of_getElem? (i := 3) rfl)) (fun _ h9 => h9) rfl dX7_holdRow_15 ?_
    refine lv_iload_n hx hb dX7_holdRow_18 rfl (lv_at hl 1 rfl) ?_
    refine lv_iload_n hx hb dX7_holdRow_19 rfl (lv_at hl 3 rfl) ?_
    refine ux_iast hx hb hK hP hD hS 40 0 (Nat.lt_of_lt_of_le (Nat.le_of_ble_eq_true rfl : 40 < 182) (Nat.le_add_right _ _)) (fun _ => (cC_40 _ _ _ _ _)) rfl h dX7_holdRow_20 (fun σ3 H locs h hP hD hS => ?_)
    refine lv_aload_n hx hb dX7_holdRow_21 rfl (lv_at hl 0 rfl) ?_
    refine ux_get (D := (dC, dI)) (ci := 7) (v := .ref (ad 41)) (C := RX7) (T := TX7) (M := 4) (fs := (oRW ad (σ3.1 37))) hx hb hts (fun _ h9 => List.mem_cons_of_mem _ (List.mem_append_right _ h9)) hown hK hP 37 (Nat.lt_of_lt_of_le (Nat.le_of_ble_eq_true rfl : 37 < 182) (Nat.le_add_right _ _)) (cC_37 _ _ _ _ _) rfl 3 (by decide) (hts (.fieldLink RX7 23 "SeatsRound$Rows" "elements" "[[J") (List.mem_of_getElem? (i := 4) rfl)) (fun _ h9 => h9) rfl dX7_holdRow_22 ?_
    refine lv_iload_n hx hb dX7_holdRow_25 rfl (lv_at hl 1 rfl) ?_
    obtain ⟨hii4, h⟩ := ckS h
    have hri4 := vp_lt hii4
    refine vz_aldg hx hb hK hP 41 7 (wG_of (Nat.lt_of_lt_of_le (Nat.le_of_ble_eq_true rfl : 41 < 182) (Nat.le_add_right _ _)) (cC_41 _ _ _ _ _)) rfl hii4 (if_pos hri4) dX7_holdRow_26 ?_
    refine lv_lconst (v := 0) hx hb dX7_holdRow_27 (by decide) ?_
    obtain ⟨r5, σ6, hf7, h⟩ := bsS h
    refine ux_callv (va_runS (As := [.ref (ad (176 + Int32.toNatClampNeg x1)), .long 0]) (rest := []) ⟨hx, hb, hml, hown, hts⟩ (tJ7_fill_d0a16 l dC dI cy ad τ nb hτ (176 + Int32.toNatClampNeg x1) 60 (by omega) (fun _ _ => (cC_r7 _ _ _ _ _ _ (by omega))) σ3 0 H.size r5 σ6 hf7) (va_cwS 2 hts gX7_holdRow_J7_fill_d0a16 rfl rfl rfl (by decide +kernel) ⟨Nat.le_of_ble_eq_true rfl, Nat.le_of_ble_eq_true rfl⟩) (wp_S hK hN hP hD) rfl rfl hl.1 rfl (lv_room (Nat.le_of_ble_eq_true rfl)) dX7_holdRow_28 ⟨Nat.le_of_ble_eq_true rfl, Nat.le_of_ble_eq_true rfl⟩) hD hS hA (fun H locs hP hD hS => ?_)
    exact ux_vret hx hb hr h hP hD hS hlocks dX7_holdRow_31
  intro H locs ls h hP hD hS hl
  exact w0 σ a1 a2 a3 H locs ls h hP hD hS (lv_sub hl [0, 1, 2, 3] rfl)

set_option maxHeartbeats 4000000 in
set_option maxRecDepth 100000 in
theorem tX7_isRow (l : Launch) (dC : Nat → ClassId) (dI : Nat → Nat → Nat) (cy : Nat → ClassId) (ad : Nat → Nat) (τ nb : Nat) (hτ : τ < nb) (σ : S2) (a1 : Int32) (sz : Nat) (r0 : Int32) (h : fX7_isRow τ σ a1 = some r0) : Met l yX7_isRow wsX7_isRow ({ frames := 1, cells := 0, slots := 0, locals := 23 }) (va_Pc [.ref (ad 37), .int a1] (wPre (dC, dI) cy (wG (cC cy ad τ) ad (182 + 6 * nb) σ) sz)) (va_Qi (fun (r : Int32) (_ : Unit) => r = r0) (fun (_ : Unit) t => wAt (dC, dI) (va_A (wG (cC cy ad τ) ad (182 + 6 * nb) σ) sz) (wG (cC cy ad τ) ad (182 + 6 * nb) σ) t) (va_A (wG (cC cy ad τ) ad (182 + 6 * nb) σ) sz)) 0 0 (va_A (wG (cC cy ad τ) ad (182 + 6 * nb) σ) sz) := by
  refine Met.ofW (cc := cX7_isRow) (maxL := 2) (ret := (some .boolean)) (by decide) rfl ?_
  intro p e s m args below meth c s₁ B hml hv
  obtain ⟨rfl, hsz, hP, hK, hD0, hN⟩ := hv
  have hx := B.exec
  have hb := B.bytes
  have hr := B.returns
  have hts := atoms_spec (ws := wsX7_isRow) B.pre
  have hown : s.vm.findClass RX7 = some m.cls := findClass_of_methodNamed B.named
  have hlocks := B.notSynchronized
  subst hsz
  have hD := hD0.self (sz := s.heap.size)
  generalize hAe : va_A (wG (cC cy ad τ) ad (182 + 6 * nb) σ) s.heap.size = A at hD ⊢
  have hA : ∀ q : Nat, s.heap.size ≤ q → A q := fun q h => by rw [← hAe]; exact Or.inr h
  have hS : va_S A s.heap s.heap [] := va_S.rf
  have hl := lv_entry ([.ref (ad 37), .int a1]) (n := 2) (Nat.le_of_ble_eq_true rfl)
  rw [lg_entry_eq]
  generalize (lg_sl ([.ref (ad 37), .int a1]) ++ List.replicate (2 - (lg_sl ([.ref (ad 37), .int a1])).length) Slot.unset).toArray = ls at hl ⊢
  have hl : lv_has ls 2 [(0, .ref (ad 37)), (1, .int a1)] := hl
  unfold fX7_isRow at h
  clear hAe hD0
  suffices HH : ∀ (H : Heap) (locs : List Loc) (ls : Array Slot), fX7_isRow_0 τ σ a1 = some r0 → va_P (dC, dI) vwCl (wG (cC cy ad τ) ad (182 + 6 * nb) σ) H → va_D A (wG (cC cy ad τ) ad (182 + 6 * nb) σ) → va_S A s.heap H locs → lv_has ls 2 [(0, .ref (ad 37)), (1, .int a1)] → W p l e (headSpec wsX7_isRow ({ frames := 1, cells := 0, slots := 0, locals := 23 })).room s m (#[.ref (ad 37), .int a1]) below meth c H locs 0 0 (MQ below (va_Qi (fun (r : Int32) (_ : Unit) => r = r0) (fun (_ : Unit) t => wAt (dC, dI) A (wG (cC cy ad τ) ad (182 + 6 * nb) σ) t) A) (#[.ref (ad 37), .int a1]) s 0 0 A) (F0 m 0 ls []) from HH s.heap [] ls h hP hD hS hl
  have w0 : ∀ (σ : S2) (x1 : Int32) (H : Heap) (locs : List Loc) (ls : Array Slot), fX7_isRow_0 τ σ x1 = some r0 → va_P (dC, dI) vwCl (wG (cC cy ad τ) ad (182 + 6 * nb) σ) H → va_D A (wG (cC cy ad τ) ad (182 + 6 * nb) σ) → va_S A s.heap H locs → lv_has ls 2 [(0, .ref (ad 37)), (1, .int x1)] → W p l e (headSpec wsX7_isRow ({ frames := 1, cells := 0, slots := 0, locals := 23 })).room s m (#[.ref (ad 37), .int a1]) below meth c H locs 0 0 (MQ below (va_Qi (fun (r : Int32) (_ : Unit) => r = r0) (fun (_ : Unit) t => wAt (dC, dI) A (wG (cC cy ad τ) ad (182 + 6 * nb) σ) t) A) (#[.ref (ad 37), .int a1]) s 0 0 A) (F0 m 0 ls []) := by
    intro σ x1 H locs ls h hP hD hS hl
    unfold fX7_isRow_0 at h
    refine lv_aload_n hx hb dX7_isRow_0 rfl (lv_at hl 0 rfl) ?_
    refine ux_get (D := (dC, dI)) (ci := 7) (v := .ref (ad 39)) (C := RX7) (T := TX7) (M := 4) (fs := (oRW ad (σ.1 37))) hx hb hts (fun _ h9 => List.mem_cons_of_mem _ (List.mem_append_right _ h9)) hown hK hP 37 (Nat.lt_of_lt_of_le (Nat.le_of_ble_eq_true rfl : 37 < 182) (Nat.le_add_right _ _)) (cC_37 _ _ _ _ _) rfl 1 (by decide) (hts (.fieldLink RX7 15 "SeatsRound$Rows" "sort" "[I") (List.mem_of_getElem? (i := 1) rfl)) (fun _ h9 => h9) rfl dX7_isRow_1 ?_
    refine lv_iload_n hx hb dX7_isRow_4 rfl (lv_at hl 1 rfl) ?_
    refine ux_iald hx hb hK hP 39 0 (Nat.lt_of_lt_of_le (Nat.le_of_ble_eq_true rfl : 39 < 182) (Nat.le_add_right _ _)) (cC_39 _ _ _ _ _) rfl h dX7_isRow_5 (fun v1 h => ?_)
    refine lv_iconst (v := (-1)) hx hb dX7_isRow_6 (by decide) ?_
    refine lv_icmp_eq (tgt := 14) hx hb dX7_isRow_7 (by decide) (fun hcd => ?_) (fun hcd => ?_)
    · have h := cdP hcd h
      refine lv_iconst (v := 0) hx hb dX7_isRow_14 (by decide) ?_
      exact ux_zretP hx hb hr rfl h hP hD hS hlocks dX7_isRow_15
    · have h := cdN hcd h
      refine lv_iconst (v := 1) hx hb dX7_isRow_10 (by decide) ?_
      refine lv_goto (tgt := 15) hx hb dX7_isRow_11 (by decide) ?_
      exact ux_zretP hx hb hr rfl h hP hD hS hlocks dX7_isRow_15
  intro H locs ls h hP hD hS hl
  exact w0 σ a1 H locs ls h hP hD hS (lv_sub hl [0, 1] rfl)

set_option maxHeartbeats 4000000 in
set_option maxRecDepth 100000 in
theorem tX7_isEmpty (l : Launch) (dC : Nat → ClassId) (dI : Nat → Nat → Nat) (cy : Nat → ClassId) (ad : Nat → Nat) (τ nb : Nat) (hτ : τ < nb) (σ : S2) (a1 : Int32) (sz : Nat) (r0 : Int32) (h : fX7_isEmpty τ σ a1 = some r0) : Met l yX7_isEmpty wsX7_isEmpty ({ frames := 1, cells := 0, slots := 0, locals := 23 }) (va_Pc [.ref (ad 37), .int a1] (wPre (dC, dI) cy (wG (cC cy ad τ) ad (182 + 6 * nb) σ) sz)) (va_Qi (fun (r : Int32) (_ : Unit) => r = r0) (fun (_ : Unit) t => wAt (dC, dI) (va_A (wG (cC cy ad τ) ad (182 + 6 * nb) σ) sz) (wG (cC cy ad τ) ad (182 + 6 * nb) σ) t) (va_A (wG (cC cy ad τ) ad (182 + 6 * nb) σ) sz)) 0 0 (va_A (wG (cC cy ad τ) ad (182 + 6 * nb) σ) sz) := by
  refine Met.ofW (cc := cX7_isEmpty) (maxL := 2) (ret := (some .boolean)) (by decide) rfl ?_
  intro p e s m args below meth c s₁ B hml hv
  obtain ⟨rfl, hsz, hP, hK, hD0, hN⟩ := hv
  have hx := B.exec
  have hb := B.bytes
  have hr := B.returns
  have hts := atoms_spec (ws := wsX7_isEmpty) B.pre
  have hown : s.vm.findClass RX7 = some m.cls := findClass_of_methodNamed B.named
  have hlocks := B.notSynchronized
  subst hsz
  have hD := hD0.self (sz := s.heap.size)
  generalize hAe : va_A (wG (cC cy ad τ) ad (182 + 6 * nb) σ) s.heap.size = A at hD ⊢
  have hA : ∀ q : Nat, s.heap.size ≤ q → A q := fun q h => by rw [← hAe]; exact Or.inr h
  have hS : va_S A s.heap s.heap [] := va_S.rf
  have hl := lv_entry ([.ref (ad 37), .int a1]) (n := 2) (Nat.le_of_ble_eq_true rfl)
  rw [lg_entry_eq]
  generalize (lg_sl ([.ref (ad 37), .int a1]) ++ List.replicate (2 - (lg_sl ([.ref (ad 37), .int a1])).length) Slot.unset).toArray = ls at hl ⊢
  have hl : lv_has ls 2 [(0, .ref (ad 37)), (1, .int a1)] := hl
  unfold fX7_isEmpty at h
  clear hAe hD0
  suffices HH : ∀ (H : Heap) (locs : List Loc) (ls : Array Slot), fX7_isEmpty_0 τ σ a1 = some r0 → va_P (dC, dI) vwCl (wG (cC cy ad τ) ad (182 + 6 * nb) σ) H → va_D A (wG (cC cy ad τ) ad (182 + 6 * nb) σ) → va_S A s.heap H locs → lv_has ls 2 [(0, .ref (ad 37)), (1, .int a1)] → W p l e (headSpec wsX7_isEmpty ({ frames := 1, cells := 0, slots := 0, locals := 23 })).room s m (#[.ref (ad 37), .int a1]) below meth c H locs 0 0 (MQ below (va_Qi (fun (r : Int32) (_ : Unit) => r = r0) (fun (_ : Unit) t => wAt (dC, dI) A (wG (cC cy ad τ) ad (182 + 6 * nb) σ) t) A) (#[.ref (ad 37), .int a1]) s 0 0 A) (F0 m 0 ls []) from HH s.heap [] ls h hP hD hS hl
  have w0 : ∀ (σ : S2) (x1 : Int32) (H : Heap) (locs : List Loc) (ls : Array Slot), fX7_isEmpty_0 τ σ x1 = some r0 → va_P (dC, dI) vwCl (wG (cC cy ad τ) ad (182 + 6 * nb) σ) H → va_D A (wG (cC cy ad τ) ad (182 + 6 * nb) σ) → va_S A s.heap H locs → lv_has ls 2 [(0, .ref (ad 37)), (1, .int x1)] → W p l e (headSpec wsX7_isEmpty ({ frames := 1, cells := 0, slots := 0, locals := 23 })).room s m (#[.ref (ad 37), .int a1]) below meth c H locs 0 0 (MQ below (va_Qi (fun (r : Int32) (_ : Unit) => r = r0) (fun (_ : Unit) t => wAt (dC, dI) A (wG (cC cy ad τ) ad (182 + 6 * nb) σ) t) A) (#[.ref (ad 37), .int a1]) s 0 0 A) (F0 m 0 ls []) := by
    intro σ x1 H locs ls h hP hD hS hl
    unfold fX7_isEmpty_0 at h
    refine lv_aload_n hx hb dX7_isEmpty_0 rfl (lv_at hl 0 rfl) ?_
    refine ux_get (D := (dC, dI)) (ci := 7) (v := .ref (ad 39)) (C := RX7) (T := TX7) (M := 4) (fs := (oRW ad (σ.1 37))) hx hb hts (fun _ h9 => List.mem_cons_of_mem _ (List.mem_append_right _ h9)) hown hK hP 37 (Nat.lt_of_lt_of_le (Nat.le_of_ble_eq_true rfl : 37 < 182) (Nat.le_add_right _ _)) (cC_37 _ _ _ _ _) rfl 1 (by decide) (hts (.fieldLink RX7 15 "SeatsRound$Rows" "sort" "[I") (List.mem_of_getElem? (i := 1) rfl)) (fun _ h9 => h9) rfl dX7_isEmpty_1 ?_
    refine lv_iload_n hx hb dX7_isEmpty_4 rfl (lv_at hl 1 rfl) ?_
    refine ux_iald hx hb hK hP 39 0 (Nat.lt_of_lt_of_le (Nat.le_of_ble_eq_true rfl : 39 < 182) (Nat.le_add_right _ _)) (cC_39 _ _ _ _ _) rfl h dX7_isEmpty_5 (fun v1 h => ?_)
    refine lv_iconst (v := (-1)) hx hb dX7_isEmpty_6 (by decide) ?_
    refine lv_icmp_ne (tgt := 24) hx hb dX7_isEmpty_7 (by decide) (fun hcd => ?_) (fun hcd => ?_)
    · have h := cdN hcd h
      refine lv_iconst (v := 0) hx hb dX7_isEmpty_24 (by decide) ?_
      exact ux_zretP hx hb hr rfl h hP hD hS hlocks dX7_isEmpty_25
    · have h := cdP hcd h
      refine lv_aload_n hx hb dX7_isEmpty_10 rfl (lv_at hl 0 rfl) ?_
      refine ux_get (D := (dC, dI)) (ci := 7) (v := .ref (ad 38)) (C := RX7) (T := TX7) (M := 4) (fs := (oRW ad (σ.1 37))) hx hb hts (fun _ h9 => List.mem_cons_of_mem _ (List.mem_append_right _ h9)) hown hK hP 37 (Nat.lt_of_lt_of_le (Nat.le_of_ble_eq_true rfl : 37 < 182) (Nat.le_add_right _ _)) (cC_37 _ _ _ _ _) rfl 0 (by decide) (hts (.fieldLink RX7 9 "SeatsRound$Rows" "keeper" "[I") (List.mem_of_getElem? (i := 2) rfl)) (fun _ h9 => h9) rfl dX7_isEmpty_11 ?_
      refine lv_iload_n hx hb dX7_isEmpty_14 rfl (lv_at hl 1 rfl) ?_
      refine ux_iald hx hb hK hP 38 0 (Nat.lt_of_lt_of_le (Nat.le_of_ble_eq_true rfl : 38 < 182) (Nat.le_add_right _ _)) (cC_38 _ _ _ _ _) rfl h dX7_isEmpty_15 (fun v2 h => ?_)
      refine lv_iconst (v := (-1)) hx hb dX7_isEmpty_16 (by decide) ?_
      refine lv_icmp_ne (tgt := 24) hx hb dX7_isEmpty_17 (by decide) (fun hcd => ?_) (fun hcd => ?_)
      · have h := cdN hcd h
        refine lv_iconst (v := 0) hx hb dX7_isEmpty_24 (by decide) ?_
        exact ux_zretP hx hb hr rfl h hP hD hS hlocks dX7_isEmpty_25
      · have h := cdP hcd h
        refine lv_iconst (v := 1) hx hb dX7_isEmpty_20 (by decide) ?_
        refine lv_goto (tgt := 25) hx hb dX7_isEmpty_21 (by decide) ?_
        exact ux_zretP hx hb hr rfl h hP hD hS hlocks dX7_isEmpty_25
  intro H locs ls h hP hD hS hl
  exact w0 σ a1 H locs ls h hP hD hS (lv_sub hl [0, 1] rfl)

set_option maxHeartbeats 4000000 in
set_option maxRecDepth 100000 in
theorem tX7_refusalAt (l : Launch) (dC : Nat → ClassId) (dI : Nat → Nat → Nat) (cy : Nat → ClassId) (ad : Nat → Nat) (τ nb : Nat) (hτ : τ < nb) (σ : S2) (a1 : Int32) (a2 : Int32) (sz : Nat) (r0 : Int32) (h : fX7_refusalAt τ σ a1 a2 = some r0) : Met l yX7_refusalAt wsX7_refusalAt ({ frames := 2, cells := 0, slots := 0, locals := 44 }) (va_Pc [.ref (ad 37), .int a1, .int a2] (wPre (dC, dI) cy (wG (cC cy ad τ) ad (182 + 6 * nb) σ) sz)) (va_Qi (fun (r : Int32) (_ : Unit) => r = r0) (fun (_ : Unit) t => wAt (dC, dI) (va_A (wG (cC cy ad τ) ad (182 + 6 * nb) σ) sz) (wG (cC cy ad τ) ad (182 + 6 * nb) σ) t) (va_A (wG (cC cy ad τ) ad (182 + 6 * nb) σ) sz)) 0 0 (va_A (wG (cC cy ad τ) ad (182 + 6 * nb) σ) sz) := by
  refine Met.ofW (cc := cX7_refusalAt) (maxL := 3) (ret := (some .int)) (by decide) rfl ?_
  intro p e s m args below meth c s₁ B hml hv
  obtain ⟨rfl, hsz, hP, hK, hD0, hN⟩ := hv
  have hx := B.exec
  have hb := B.bytes
  have hr := B.returns
  have hts := atoms_spec (ws := wsX7_refusalAt) B.pre
  have hown : s.vm.findClass RX7 = some m.cls := findClass_of_methodNamed B.named
  have hlocks := B.notSynchronized
  subst hsz
  have hD := hD0.self (sz := s.heap.size)
  generalize hAe : va_A (wG (cC cy ad τ) ad (182 + 6 * nb) σ) s.heap.size = A at hD ⊢
  have hA : ∀ q : Nat, s.heap.size ≤ q → A q := fun q h => by rw [← hAe]; exact Or.inr h
  have hS : va_S A s.heap s.heap [] := va_S.rf
  have hl := lv_entry ([.ref (ad 37), .int a1, .int a2]) (n := 3) (Nat.le_of_ble_eq_true rfl)
  rw [lg_entry_eq]
  generalize (lg_sl ([.ref (ad 37), .int a1, .int a2]) ++ List.replicate (3 - (lg_sl ([.ref (ad 37), .int a1, .int a2])).length) Slot.unset).toArray = ls at hl ⊢
  have hl : lv_has ls 3 [(0, .ref (ad 37)), (1, .int a1), (2, .int a2)] := hl
  unfold fX7_refusalAt at h
  clear hAe hD0
  suffices HH : ∀ (H : Heap) (locs : List Loc) (ls : Array Slot), fX7_refusalAt_0 τ σ a1 a2 = some r0 → va_P (dC, dI) vwCl (wG (cC cy ad τ) ad (182 + 6 * nb) σ) H → va_D A (wG (cC cy ad τ) ad (182 + 6 * nb) σ) → va_S A s.heap H locs → lv_has ls 3 [(0, .ref (ad 37)), (1, .int a1), (2, .int a2)] → W p l e (headSpec wsX7_refusalAt ({ frames := 2, cells := 0, slots := 0, locals := 44 })).room s m (#[.ref (ad 37), .int a1, .int a2]) below meth c H locs 0 0 (MQ below (va_Qi (fun (r : Int32) (_ : Unit) => r = r0) (fun (_ : Unit) t => wAt (dC, dI) A (wG (cC cy ad τ) ad (182 + 6 * nb) σ) t) A) (#[.ref (ad 37), .int a1, .int a2]) s 0 0 A) (F0 m 0 ls []) from HH s.heap [] ls h hP hD hS hl
  have w0 : ∀ (σ : S2) (x1 : Int32) (x2 : Int32) (H : Heap) (locs : List Loc) (ls : Array Slot), fX7_refusalAt_0 τ σ x1 x2 = some r0 → va_P (dC, dI) vwCl (wG (cC cy ad τ) ad (182 + 6 * nb) σ) H → va_D A (wG (cC cy ad τ) ad (182 + 6 * nb) σ) → va_S A s.heap H locs → lv_has ls 3 [(0, .ref (ad 37)), (1, .int x1), (2, .int x2)] → W p l e (headSpec wsX7_refusalAt ({ frames := 2, cells := 0, slots := 0, locals := 44 })).room s m (#[.ref (ad 37), .int a1, .int a2]) below meth c H locs 0 0 (MQ below (va_Qi (fun (r : Int32) (_ : Unit) => r = r0) (fun (_ : Unit) t => wAt (dC, dI) A (wG (cC cy ad τ) ad (182 + 6 * nb) σ) t) A) (#[.ref (ad 37), .int a1, .int a2]) s 0 0 A) (F0 m 0 ls []) := by
    intro σ x1 x2 H locs ls h hP hD hS hl
    unfold fX7_refusalAt_0 at h
    refine lv_aload_n hx hb dX7_refusalAt_0 rfl (lv_at hl 0 rfl) ?_
    refine lv_iload_n hx hb dX7_refusalAt_1 rfl (lv_at hl 1 rfl) ?_
    obtain ⟨r1, hf2, h⟩ := biS h
    refine ux_calli (va_runV (As := [.int x1]) (rest := []) ⟨hx, hb, hml, hown, hts⟩ (tX7_isEmpty l dC dI cy ad τ nb hτ σ x1 H.size r1 hf2) (cwV 1 hts gX7_refusalAt_X7_isEmpty rfl rfl rfl (by decide +kernel) ⟨Nat.le_of_ble_eq_true rfl, Nat.le_of_ble_eq_true rfl⟩) (wp_V hK hN hP hD (va_recv hK hP (ci := 7) (q0 := 37) rfl (wG_of (Nat.lt_of_lt_of_le (Nat.le_of_ble_eq_true rfl : 37 < 182) (Nat.le_add_right _ _)) (cC_37 _ _ _ _ _)))) rfl rfl hl.1 rfl (lv_room (Nat.le_of_ble_eq_true rfl)) dX7_refusalAt_2 ⟨Nat.le_of_ble_eq_true rfl, Nat.le_of_ble_eq_true rfl⟩) hD hS hA (fun H locs hP hD hS => ?_)
    refine lv_if_eq (tgt := 11) hx hb dX7_refusalAt_5 (by decide) (fun hcd => ?_) (fun hcd => ?_)
    · have h := cdP hcd h
      refine lv_aload_n hx hb dX7_refusalAt_11 rfl (lv_at hl 0 rfl) ?_
      refine lv_iload_n hx hb dX7_refusalAt_12 rfl (lv_at hl 1 rfl) ?_
      obtain ⟨r3, hf4, h⟩ := biS h
      refine ux_calli (va_runV (As := [.int x1]) (rest := []) ⟨hx, hb, hml, hown, hts⟩ (tX7_isRow l dC dI cy ad τ nb hτ σ x1 H.size r3 hf4) (cwV 1 hts gX7_refusalAt_X7_isRow rfl rfl rfl (by decide +kernel) ⟨Nat.le_of_ble_eq_true rfl, Nat.le_of_ble_eq_true rfl⟩) (wp_V hK hN hP hD (va_recv hK hP (ci := 7) (q0 := 37) rfl (wG_of (Nat.lt_of_lt_of_le (Nat.le_of_ble_eq_true rfl : 37 < 182) (Nat.le_add_right _ _)) (cC_37 _ _ _ _ _)))) rfl rfl hl.1 rfl (lv_room (Nat.le_of_ble_eq_true rfl)) dX7_refusalAt_13 ⟨Nat.le_of_ble_eq_true rfl, Nat.le_of_ble_eq_true rfl⟩) hD hS hA (fun H locs hP hD hS => ?_)
      refine lv_if_ne (tgt := 22) hx hb dX7_refusalAt_16 (by decide) (fun hcd => ?_) (fun hcd => ?_)
      · have h := cdN hcd h
        refine lv_iload_n hx hb dX7_refusalAt_22 rfl (lv_at hl 2 rfl) ?_
        refine lv_if_lt (tgt := 40) hx hb dX7_refusalAt_23 (by decide) (fun hcd => ?_) (fun hcd => ?_)
        · have h := cdP hcd h
          refine lv_bipush (v := (-13)) hx hb dX7_refusalAt_40 (by decide) ?_
          exact ux_iretP hx hb hr h hP hD hS hlocks dX7_refusalAt_42
        · have h := cdN hcd h
          refine lv_iload_n hx hb dX7_refusalAt_26 rfl (lv_at hl 2 rfl) ?_
          refine lv_aload_n hx hb dX7_refusalAt_27 rfl (lv_at hl 0 rfl) ?_
          refine ux_get (D := (dC, dI)) (ci := 7) (v := .ref (ad 40)) (C := RX7) (T := TX7) (M := 4) (fs := (oRW ad (σ.1 37))) hx hb hts (fun _ h9 => List.mem_cons_of_mem _ (List.mem_append_right _ h9)) hown hK hP 37 (Nat.lt_of_lt_of_le (Nat.le_of_ble_eq_true rfl : 37 < 182) (Nat.le_add_right _ _)) (cC_37 _ _ _ _ _) rfl 2 (by decide) (hts (.fieldLink RX7 18 "SeatsRound$Rows" "length" "[I") (List.mem_of_getElem? (i := 1) rfl)) (fun _ h9 => h9) rfl dX7_refusalAt_28 ?_
          refine lv_iload_n hx hb dX7_refusalAt_31 rfl (lv_at hl 1 rfl) ?_
          refine ux_iald hx hb hK hP 40 0 (Nat.lt_of_lt_of_le (Nat.le_of_ble_eq_true rfl : 40 < 182) (Nat.le_add_right _ _)) (cC_40 _ _ _ _ _) rfl h dX7_refusalAt_32 (fun v5 h => ?_)
          refine lv_icmp_ge (tgt := 40) hx hb dX7_refusalAt_33 (by decide) (fun hcd => ?_) (fun hcd => ?_)
          · have h := cdP hcd h
            refine lv_bipush (v := (-13)) hx hb dX7_refusalAt_40 (by decide) ?_
            exact ux_iretP hx hb hr h hP hD hS hlocks dX7_refusalAt_42
          · have h := cdN hcd h
            refine lv_iconst (v := 0) hx hb dX7_refusalAt_36 (by decide) ?_
            refine lv_goto (tgt := 42) hx hb dX7_refusalAt_37 (by decide) ?_
            exact ux_iretP hx hb hr h hP hD hS hlocks dX7_refusalAt_42
      · have h := cdP hcd h
        refine lv_bipush (v := (-12)) hx hb dX7_refusalAt_19 (by decide) ?_
        exact ux_iretP hx hb hr h hP hD hS hlocks dX7_refusalAt_21
    · have h := cdN hcd h
      refine lv_bipush (v := (-11)) hx hb dX7_refusalAt_8 (by decide) ?_
      exact ux_iretP hx hb hr h hP hD hS hlocks dX7_refusalAt_10
  intro H locs ls h hP hD hS hl
  exact w0 σ a1 a2 H locs ls h hP hD hS (lv_sub hl [0, 1, 2] rfl)

set_option maxHeartbeats 4000000 in
set_option maxRecDepth 100000 in
theorem tX7_spans (l : Launch) (dC : Nat → ClassId) (dI : Nat → Nat → Nat) (cy : Nat → ClassId) (ad : Nat → Nat) (τ nb : Nat) (hτ : τ < nb) (σ : S2) (a1 : Int32) (a2 : Int32) (a3 : Int32) (sz : Nat) (r0 : Int32) (h : fX7_spans τ σ a1 a2 a3 = some r0) : Met l yX7_spans wsX7_spans ({ frames := 1, cells := 0, slots := 0, locals := 23 }) (va_Pc [.ref (ad 37), .int a1, .int a2, .int a3] (wPre (dC, dI) cy (wG (cC cy ad τ) ad (182 + 6 * nb) σ) sz)) (va_Qi (fun (r : Int32) (_ : Unit) => r = r0) (fun (_ : Unit) t => wAt (dC, dI) (va_A (wG (cC cy ad τ) ad (182 + 6 * nb) σ) sz) (wG (cC cy ad τ) ad (182 + 6 * nb) σ) t) (va_A (wG (cC cy ad τ) ad (182 + 6 * nb) σ) sz)) 0 0 (va_A (wG (cC cy ad τ) ad (182 + 6 * nb) σ) sz) := by
  refine Met.ofW (cc := cX7_spans) (maxL := 4) (ret := (some .boolean)) (by decide) rfl ?_
  intro p e s m args below meth c s₁ B hml hv
  obtain ⟨rfl, hsz, hP, hK, hD0, hN⟩ := hv
  have hx := B.exec
  have hb := B.bytes
  have hr := B.returns
  have hts := atoms_spec (ws := wsX7_spans) B.pre
  have hown : s.vm.findClass RX7 = some m.cls := findClass_of_methodNamed B.named
  have hlocks := B.notSynchronized
  subst hsz
  have hD := hD0.self (sz := s.heap.size)
  generalize hAe : va_A (wG (cC cy ad τ) ad (182 + 6 * nb) σ) s.heap.size = A at hD ⊢
  have hA : ∀ q : Nat, s.heap.size ≤ q → A q := fun q h => by rw [← hAe]; exact Or.inr h
  have hS : va_S A s.heap s.heap [] := va_S.rf
  have hl := lv_entry ([.ref (ad 37), .int a1, .int a2, .int a3]) (n := 4) (Nat.le_of_ble_eq_true rfl)
  rw [lg_entry_eq]
  generalize (lg_sl ([.ref (ad 37), .int a1, .int a2, .int a3]) ++ List.replicate (4 - (lg_sl ([.ref (ad 37), .int a1, .int a2, .int a3])).length) Slot.unset).toArray = ls at hl ⊢
  have hl : lv_has ls 4 [(0, .ref (ad 37)), (1, .int a1), (2, .int a2), (3, .int a3)] := hl
  unfold fX7_spans at h
  clear hAe hD0
  suffices HH : ∀ (H : Heap) (locs : List Loc) (ls : Array Slot), fX7_spans_0 τ σ a1 a2 a3 = some r0 → va_P (dC, dI) vwCl (wG (cC cy ad τ) ad (182 + 6 * nb) σ) H → va_D A (wG (cC cy ad τ) ad (182 + 6 * nb) σ) → va_S A s.heap H locs → lv_has ls 4 [(0, .ref (ad 37)), (1, .int a1), (2, .int a2), (3, .int a3)] → W p l e (headSpec wsX7_spans ({ frames := 1, cells := 0, slots := 0, locals := 23 })).room s m (#[.ref (ad 37), .int a1, .int a2, .int a3]) below meth c H locs 0 0 (MQ below (va_Qi (fun (r : Int32) (_ : Unit) => r = r0) (fun (_ : Unit) t => wAt (dC, dI) A (wG (cC cy ad τ) ad (182 + 6 * nb) σ) t) A) (#[.ref (ad 37), .int a1, .int a2, .int a3]) s 0 0 A) (F0 m 0 ls []) from HH s.heap [] ls h hP hD hS hl
  have w0 : ∀ (σ : S2) (x1 : Int32) (x2 : Int32) (x3 : Int32) (H : Heap) (locs : List Loc) (ls : Array Slot), fX7_spans_0 τ σ x1 x2 x3 = some r0 → va_P (dC, dI) vwCl (wG (cC cy ad τ) ad (182 + 6 * nb) σ) H → va_D A (wG (cC cy ad τ) ad (182 + 6 * nb) σ) → va_S A s.heap H locs → lv_has ls 4 [(0, .ref (ad 37)), (1, .int x1), (2, .int x2), (3, .int x3)] → W p l e (headSpec wsX7_spans ({ frames := 1, cells := 0, slots := 0, locals := 23 })).room s m (#[.ref (ad 37), .int a1, .int a2, .int a3]) below meth c H locs 0 0 (MQ below (va_Qi (fun (r : Int32) (_ : Unit) => r = r0) (fun (_ : Unit) t => wAt (dC, dI) A (wG (cC cy ad τ) ad (182 + 6 * nb) σ) t) A) (#[.ref (ad 37), .int a1, .int a2, .int a3]) s 0 0 A) (F0 m 0 ls []) := by
    intro σ x1 x2 x3 H locs ls h hP hD hS hl
    unfold fX7_spans_0 at h
    refine lv_iload_n hx hb dX7_spans_0 rfl (lv_at hl 2 rfl) ?_
    refine lv_if_lt (tgt := 34) hx hb dX7_spans_1 (by decide) (fun hcd => ?_) (fun hcd => ?_)
    · have h := cdP hcd h
      refine lv_iconst (v := 0) hx hb dX7_spans_34 (by decide) ?_
      exact ux_zretP hx hb hr rfl h hP hD hS hlocks dX7_spans_35
    · have h := cdN hcd h
      refine lv_iload_n hx hb dX7_spans_4 rfl (lv_at hl 3 rfl) ?_
      refine lv_if_lt (tgt := 34) hx hb dX7_spans_5 (by decide) (fun hcd => ?_) (fun hcd => ?_)
      · have h := cdP hcd h
        refine lv_iconst (v := 0) hx hb dX7_spans_34 (by decide) ?_
        exact ux_zretP hx hb hr rfl h hP hD hS hlocks dX7_spans_35
      · have h := cdN hcd h
        refine lv_iload_n hx hb dX7_spans_8 rfl (lv_at hl 2 rfl) ?_
        refine lv_aload_n hx hb dX7_spans_9 rfl (lv_at hl 0 rfl) ?_
        refine ux_get (D := (dC, dI)) (ci := 7) (v := .ref (ad 40)) (C := RX7) (T := TX7) (M := 4) (fs := (oRW ad (σ.1 37))) hx hb hts (fun _ h9 => List.mem_cons_of_mem _ (List.mem_append_right _ h9)) hown hK hP 37 (Nat.lt_of_lt_of_le (Nat.le_of_ble_eq_true rfl : 37 < 182) (Nat.le_add_right _ _)) (cC_37 _ _ _ _ _) rfl 2 (by decide) (hts (.fieldLink RX7 18 "SeatsRound$Rows" "length" "[I") (List.mem_of_getElem? (i := 1) rfl)) (fun _ h9 => h9) rfl dX7_spans_10 ?_
        refine lv_iload_n hx hb dX7_spans_13 rfl (lv_at hl 1 rfl) ?_
        refine ux_iald hx hb hK hP 40 0 (Nat.lt_of_lt_of_le (Nat.le_of_ble_eq_true rfl : 40 < 182) (Nat.le_add_right _ _)) (cC_40 _ _ _ _ _) rfl h dX7_spans_14 (fun v1 h => ?_)
        refine lv_icmp_gt (tgt := 34) hx hb dX7_spans_15 (by decide) (fun hcd => ?_) (fun hcd => ?_)
        · have h := cdP hcd h
          refine lv_iconst (v := 0) hx hb dX7_spans_34 (by decide) ?_
          exact ux_zretP hx hb hr rfl h hP hD hS hlocks dX7_spans_35
        · have h := cdN hcd h
          refine lv_iload_n hx hb dX7_spans_18 rfl (lv_at hl 3 rfl) ?_
          refine lv_aload_n hx hb dX7_spans_19 rfl (lv_at hl 0 rfl) ?_
          refine ux_get (D := (dC, dI)) (ci := 7) (v := .ref (ad 40)) (C := RX7) (T := TX7) (M := 4) (fs := (oRW ad (σ.1 37))) hx hb hts (fun _ h9 => List.mem_cons_of_mem _ (List.mem_append_right _ h9)) hown hK hP 37 (Nat.lt_of_lt_of_le (Nat.le_of_ble_eq_true rfl : 37 < 182) (Nat.le_add_right _ _)) (cC_37 _ _ _ _ _) rfl 2 (by decide) (hts (.fieldLink RX7 18 "SeatsRound$Rows" "length" "[I") (List.mem_of_getElem? (i := 1) rfl)) (fun _ h9 => h9) rfl dX7_spans_20 ?_
          refine lv_iload_n hx hb dX7_spans_23 rfl (lv_at hl 1 rfl) ?_
          refine ux_iald hx hb hK hP 40 0 (Nat.lt_of_lt_of_le (Nat.le_of_ble_eq_true rfl : 40 < 182) (Nat.le_add_right _ _)) (cC_40 _ _ _ _ _) rfl h dX7_spans_24 (fun v2 h => ?_)
          refine lv_iload_n hx hb dX7_spans_25 rfl (lv_at hl 2 rfl) ?_
          refine lv_isub hx hb dX7_spans_26 ?_
          refine lv_icmp_gt (tgt := 34) hx hb dX7_spans_27 (by decide) (fun hcd => ?_) (fun hcd => ?_)
          · have h := cdP hcd h
            refine lv_iconst (v := 0) hx hb dX7_spans_34 (by decide) ?_
            exact ux_zretP hx hb hr rfl h hP hD hS hlocks dX7_spans_35
          · have h := cdN hcd h
            refine lv_iconst (v := 1) hx hb dX7_spans_30 (by decide) ?_
            refine lv_goto (tgt := 35) hx hb dX7_spans_31 (by decide) ?_
            exact ux_zretP hx hb hr rfl h hP hD hS hlocks dX7_spans_35
  intro H locs ls h hP hD hS hl
  exact w0 σ a1 a2 a3 H locs ls h hP hD hS (lv_sub hl [0, 1, 2, 3] rfl)

