set_option maxHeartbeats 4000000 in
set_option maxRecDepth 100000 in
theorem tX7_lowest (l : Launch) (dC : Nat → ClassId) (dI : Nat → Nat → Nat) (cy : Nat → ClassId) (ad : Nat → Nat) (τ nb : Nat) (hτ : τ < nb) (σ : S2) (a0 : Int32) (a1 : Int64) (sz : Nat) (r0 : Int64) (h : fX7_lowest τ σ a0 a1 = some r0) : Met l yX7_lowest wsX7_lowest ({ frames := 1, cells := 0, slots := 0, locals := 23 }) (va_Pc [.int a0, .long a1] (wPre (dC, dI) cy (wG (cC cy ad τ) ad (182 + 6 * nb) σ) sz)) (va_Ql (fun (r : Int64) (_ : Unit) => r = r0) (fun (_ : Unit) t => wAt (dC, dI) (va_A (wG (cC cy ad τ) ad (182 + 6 * nb) σ) sz) (wG (cC cy ad τ) ad (182 + 6 * nb) σ) t) (va_A (wG (cC cy ad τ) ad (182 + 6 * nb) σ) sz)) 0 0 (va_A (wG (cC cy ad τ) ad (182 + 6 * nb) σ) sz) := by
  refine Met.ofW (cc := cX7_lowest) (maxL := 3) (ret := (some .long)) (by decide) rfl ?_
  intro p e s m args below meth c s₁ B hml hv
  obtain ⟨rfl, hsz, hP, hK, hD0, hN⟩ := hv
  have hx := B.exec
  have hb := B.bytes
  have hr := B.returns
  have hts := atoms_spec (ws := wsX7_lowest) B.pre
  have hown : s.vm.findClass RX7 = some m.cls := findClass_of_methodNamed B.named
  have hlocks := B.notSynchronized
  subst hsz
  have hD := hD0.self (sz := s.heap.size)
  generalize hAe : va_A (wG (cC cy ad τ) ad (182 + 6 * nb) σ) s.heap.size = A at hD ⊢
  have hA : ∀ q : Nat, s.heap.size ≤ q → A q := fun q h => by rw [← hAe]; exact Or.inr h
  have hS : va_S A s.heap s.heap [] := va_S.rf
  have hl := lv_entry ([.int a0, .long a1]) (n := 3) (Nat.le_of_ble_eq_true rfl)
  rw [lg_entry_eq]
  generalize (lg_sl ([.int a0, .long a1]) ++ List.replicate (3 - (lg_sl ([.int a0, .long a1])).length) Slot.unset).toArray = ls at hl ⊢
  have hl : lv_has ls 3 [(0, .int a0), (1, .long a1)] := hl
  unfold fX7_lowest at h
  clear hAe hD0
  suffices HH : ∀ (H : Heap) (locs : List Loc) (ls : Array Slot), fX7_lowest_0 τ σ a0 a1 = some r0 → va_P (dC, dI) vwCl (wG (cC cy ad τ) ad (182 + 6 * nb) σ) H → va_D A (wG (cC cy ad τ) ad (182 + 6 * nb) σ) → va_S A s.heap H locs → lv_has ls 3 [(0, .int a0), (1, .long a1)] → W p l e (headSpec wsX7_lowest ({ frames := 1, cells := 0, slots := 0, locals := 23 })).room s m (#[.int a0, .long a1]) below meth c H locs 0 0 (MQ below (va_Ql (fun (r : Int64) (_ : Unit) => r = r0) (fun (_ : Unit) t => wAt (dC, dI) A (wG (cC cy ad τ) ad (182 + 6 * nb) σ) t) A) (#[.int a0, .long a1]) s 0 0 A) (F0 m 0 ls []) from HH s.heap [] ls h hP hD hS hl
  have w0 : ∀ (σ : S2) (x0 : Int32) (x1 : Int64) (H : Heap) (locs : List Loc) (ls : Array Slot), fX7_lowest_0 τ σ x0 x1 = some r0 → va_P (dC, dI) vwCl (wG (cC cy ad τ) ad (182 + 6 * nb) σ) H → va_D A (wG (cC cy ad τ) ad (182 + 6 * nb) σ) → va_S A s.heap H locs → lv_has ls 3 [(0, .int x0), (1, .long x1)] → W p l e (headSpec wsX7_lowest ({ frames := 1, cells := 0, slots := 0, locals := 23 })).room s m (#[.int a0, .long a1]) below meth c H locs 0 0 (MQ below (va_Ql (fun (r : Int64) (_ : Unit) => r = r0) (fun (_ : Unit) t => wAt (dC, dI) A (wG (cC cy ad τ) ad (182 + 6 * nb) σ) t) A) (#[.int a0, .long a1]) s 0 0 A) (F0 m 0 ls []) := by
    intro σ x0 x1 H locs ls h hP hD hS hl
    unfold fX7_lowest_0 at h
    refine lv_iload_n hx hb dX7_lowest_0 rfl (lv_at hl 0 rfl) ?_
    by_cases hcd1 : x0 = 0
    · have h := cdP hcd1 h
      refine lv_tableIn (off := 35) (tgt := 36) hx hb dX7_lowest_1 (by rw [hcd1]; decide) (by rw [hcd1]; decide) (by rw [hcd1]; rfl) (by decide) ?_
      refine lv_lload_n hx hb dX7_lowest_36 rfl (lv_at hl 1 rfl) ?_
      refine lv_l2i hx hb dX7_lowest_37 rfl ?_
      refine lv_i2b hx hb dX7_lowest_38 rfl ?_
      refine lv_i2l hx hb dX7_lowest_39 rfl ?_
      exact ux_lretP hx hb hr h hP hD hS hlocks dX7_lowest_40
    · have h := cdN hcd1 h
      have ihcd1 : ¬ x0.toInt = (0 : Int) := fun h9 => hcd1 (Int32.toInt_inj.mp h9)
      by_cases hcd2 : x0 = 1
      · have h := cdP hcd2 h
        refine lv_tableIn (off := 40) (tgt := 41) hx hb dX7_lowest_1 (by rw [hcd2]; decide) (by rw [hcd2]; decide) (by rw [hcd2]; rfl) (by decide) ?_
        refine lv_lload_n hx hb dX7_lowest_41 rfl (lv_at hl 1 rfl) ?_
        refine lv_l2i hx hb dX7_lowest_42 rfl ?_
        refine lv_i2s hx hb dX7_lowest_43 rfl ?_
        refine lv_i2l hx hb dX7_lowest_44 rfl ?_
        exact ux_lretP hx hb hr h hP hD hS hlocks dX7_lowest_45
      · have h := cdN hcd2 h
        have ihcd2 : ¬ x0.toInt = (1 : Int) := fun h9 => hcd2 (Int32.toInt_inj.mp h9)
        by_cases hcd3 : x0 = 2
        · have h := cdP hcd3 h
          refine lv_tableIn (off := 45) (tgt := 46) hx hb dX7_lowest_1 (by rw [hcd3]; decide) (by rw [hcd3]; decide) (by rw [hcd3]; rfl) (by decide) ?_
          refine lv_lload_n hx hb dX7_lowest_46 rfl (lv_at hl 1 rfl) ?_
          refine lv_l2i hx hb dX7_lowest_47 rfl ?_
          refine lv_i2l hx hb dX7_lowest_48 rfl ?_
          exact ux_lretP hx hb hr h hP hD hS hlocks dX7_lowest_49
        · have h := cdN hcd3 h
          have ihcd3 : ¬ x0.toInt = (2 : Int) := fun h9 => hcd3 (Int32.toInt_inj.mp h9)
          by_cases hcd4 : x0 = 3
          · have h := cdP hcd4 h
            refine lv_tableIn (off := 61) (tgt := 62) hx hb dX7_lowest_1 (by rw [hcd4]; decide) (by rw [hcd4]; decide) (by rw [hcd4]; rfl) (by decide) ?_
            refine lv_lload_n hx hb dX7_lowest_62 rfl (lv_at hl 1 rfl) ?_
            exact ux_lretP hx hb hr h hP hD hS hlocks dX7_lowest_63
          · have h := cdN hcd4 h
            have ihcd4 : ¬ x0.toInt = (3 : Int) := fun h9 => hcd4 (Int32.toInt_inj.mp h9)
            by_cases hcd5 : x0 = 4
            · have h := cdP hcd5 h
              refine lv_tableIn (off := 49) (tgt := 50) hx hb dX7_lowest_1 (by rw [hcd5]; decide) (by rw [hcd5]; decide) (by rw [hcd5]; rfl) (by decide) ?_
              refine lv_lload_n hx hb dX7_lowest_50 rfl (lv_at hl 1 rfl) ?_
              refine lv_lconst (v := 0) hx hb dX7_lowest_51 (by decide) ?_
              refine W.lcmp hx hb dX7_lowest_52 ?_
              refine lv_if_eq (tgt := 60) hx hb dX7_lowest_53 (by decide) (fun hcd => ?_) (fun hcd => ?_)
              · have h := cdP hcd h
                refine lv_lconst (v := 0) hx hb dX7_lowest_60 (by decide) ?_
                exact ux_lretP hx hb hr h hP hD hS hlocks dX7_lowest_61
              · have h := cdN hcd h
                refine lv_lconst (v := 1) hx hb dX7_lowest_56 (by decide) ?_
                refine lv_goto (tgt := 61) hx hb dX7_lowest_57 (by decide) ?_
                exact ux_lretP hx hb hr h hP hD hS hlocks dX7_lowest_61
            · have h := cdN hcd5 h
              have ihcd5 : ¬ x0.toInt = (4 : Int) := fun h9 => hcd5 (Int32.toInt_inj.mp h9)
              refine lv_tableOut (tgt := 62) hx hb dX7_lowest_1 (by omega) (by decide) ?_
              refine lv_lload_n hx hb dX7_lowest_62 rfl (lv_at hl 1 rfl) ?_
              exact ux_lretP hx hb hr h hP hD hS hlocks dX7_lowest_63
  intro H locs ls h hP hD hS hl
  exact w0 σ a0 a1 H locs ls h hP hD hS (lv_sub hl [0, 1] rfl)

set_option maxHeartbeats 4000000 in
set_option maxRecDepth 100000 in
theorem tX8_takeMembers (l : Launch) (dC : Nat → ClassId) (dI : Nat → Nat → Nat) (cy : Nat → ClassId) (ad : Nat → Nat) (τ nb : Nat) (hτ : τ < nb) (b0 : Nat) (hb0 : b0 < nb) (σ : S2) (a1 : Int32) (sz : Nat) (r0 : Unit) (σ9 : S2) (h : fX8_takeMembers τ b0 σ a1 = some (r0, σ9)) : Met l yX8_takeMembers wsX8_takeMembers ({ frames := 2, cells := 0, slots := 0, locals := 45 }) (va_Pc [.ref (ad (182 + 6 * b0)), .int a1, .ref (ad 7)] (wPre (dC, dI) cy (wG (cC cy ad τ) ad (182 + 6 * nb) σ) sz)) (va_Qv (fun (_ : Unit) => True) (fun (_ : Unit) t => wAt (dC, dI) (va_A (wG (cC cy ad τ) ad (182 + 6 * nb) σ) sz) (wG (cC cy ad τ) ad (182 + 6 * nb) σ9) t) (va_A (wG (cC cy ad τ) ad (182 + 6 * nb) σ) sz)) 0 0 (va_A (wG (cC cy ad τ) ad (182 + 6 * nb) σ) sz) := by
  refine Met.ofW (cc := cX8_takeMembers) (maxL := 4) (ret := none) (by decide) rfl ?_
  intro p e s m args below meth c s₁ B hml hv
  obtain ⟨rfl, hsz, hP, hK, hD0, hN⟩ := hv
  have hx := B.exec
  have hb := B.bytes
  have hr := B.returns
  have hts := atoms_spec (ws := wsX8_takeMembers) B.pre
  have hown : s.vm.findClass RX8 = some m.cls := findClass_of_methodNamed B.named
  have hlocks := B.notSynchronized
  subst hsz
  have hD := hD0.self (sz := s.heap.size)
  generalize hAe : va_A (wG (cC cy ad τ) ad (182 + 6 * nb) σ) s.heap.size = A at hD ⊢
  have hA : ∀ q : Nat, s.heap.size ≤ q → A q := fun q h => by rw [← hAe]; exact Or.inr h
  have hS : va_S A s.heap s.heap [] := va_S.rf
  have hl := lv_entry ([.ref (ad (182 + 6 * b0)), .int a1, .ref (ad 7)]) (n := 4) (Nat.le_of_ble_eq_true rfl)
  rw [lg_entry_eq]
  generalize (lg_sl ([.ref (ad (182 + 6 * b0)), .int a1, .ref (ad 7)]) ++ List.replicate (4 - (lg_sl ([.ref (ad (182 + 6 * b0)), .int a1, .ref (ad 7)])).length) Slot.unset).toArray = ls at hl ⊢
  have hl : lv_has ls 4 [(0, .ref (ad (182 + 6 * b0))), (1, .int a1), (2, .ref (ad 7))] := hl
  unfold fX8_takeMembers at h
  clear hAe hD0
  suffices HH : ∀ (H : Heap) (locs : List Loc) (ls : Array Slot), fX8_takeMembers_0 τ b0 σ a1 = some (r0, σ9) → va_P (dC, dI) vwCl (wG (cC cy ad τ) ad (182 + 6 * nb) σ) H → va_D A (wG (cC cy ad τ) ad (182 + 6 * nb) σ) → va_S A s.heap H locs → lv_has ls 4 [(0, .ref (ad (182 + 6 * b0))), (1, .int a1), (2, .ref (ad 7))] → W p l e (headSpec wsX8_takeMembers ({ frames := 2, cells := 0, slots := 0, locals := 45 })).room s m (#[.ref (ad (182 + 6 * b0)), .int a1, .ref (ad 7)]) below meth c H locs 0 0 (MQ below (va_Qv (fun (_ : Unit) => True) (fun (_ : Unit) t => wAt (dC, dI) A (wG (cC cy ad τ) ad (182 + 6 * nb) σ9) t) A) (#[.ref (ad (182 + 6 * b0)), .int a1, .ref (ad 7)]) s 0 0 A) (F0 m 0 ls []) from HH s.heap [] ls h hP hD hS hl
  have w36 : ∀ (k7 : S2 → Int32 → Int32 → Option (Unit × S2)) (hk7 : ∀ (σ : S2) (x1 : Int32) (x3 : Int32) (H : Heap) (locs : List Loc) (ls : Array Slot), k7 σ x1 x3 = some (r0, σ9) → va_P (dC, dI) vwCl (wG (cC cy ad τ) ad (182 + 6 * nb) σ) H → va_D A (wG (cC cy ad τ) ad (182 + 6 * nb) σ) → va_S A s.heap H locs → lv_has ls 4 [(0, .ref (ad (182 + 6 * b0))), (1, .int x1), (2, .ref (ad 7)), (3, .int x3)] → W p l e (headSpec wsX8_takeMembers ({ frames := 2, cells := 0, slots := 0, locals := 45 })).room s m (#[.ref (ad (182 + 6 * b0)), .int a1, .ref (ad 7)]) below meth c H locs 0 0 (MQ below (va_Qv (fun (_ : Unit) => True) (fun (_ : Unit) t => wAt (dC, dI) A (wG (cC cy ad τ) ad (182 + 6 * nb) σ9) t) A) (#[.ref (ad (182 + 6 * b0)), .int a1, .ref (ad 7)]) s 0 0 A) (F0 m 7 ls [])) , ∀ (σ : S2) (x1 : Int32) (x3 : Int32) (s0 : Int32) (s1 : Int32) (H : Heap) (locs : List Loc) (ls : Array Slot), fX8_takeMembers_36 τ b0 k7 σ x1 x3 s0 s1 = some (r0, σ9) → va_P (dC, dI) vwCl (wG (cC cy ad τ) ad (182 + 6 * nb) σ) H → va_D A (wG (cC cy ad τ) ad (182 + 6 * nb) σ) → va_S A s.heap H locs → lv_has ls 4 [(0, .ref (ad (182 + 6 * b0))), (1, .int x1), (2, .ref (ad 7)), (3, .int x3)] → W p l e (headSpec wsX8_takeMembers ({ frames := 2, cells := 0, slots := 0, locals := 45 })).room s m (#[.ref (ad (182 + 6 * b0)), .int a1, .ref (ad 7)]) below meth c H locs 0 0 (MQ below (va_Qv (fun (_ : Unit) => True) (fun (_ : Unit) t => wAt (dC, dI) A (wG (cC cy ad τ) ad (182 + 6 * nb) σ9) t) A) (#[.ref (ad (182 + 6 * b0)), .int a1, .ref (ad 7)]) s 0 0 A) (F0 m 36 ls [.int s0, .int s1, .ref (ad (182 + 6 * b0 + 1))]) := by
    intro k7 hk7 σ x1 x3 s0 s1 H locs ls h hP hD hS hl
    unfold fX8_takeMembers_36 at h
    refine ux_iast hx hb hK hP hD hS (182 + 6 * b0 + 1) 0 (by omega) (fun _ => (cC_t1 _ _ _ _ _ b0)) rfl h dX8_takeMembers_36 (fun σ1 H locs h hP hD hS => ?_)
    obtain ⟨v2, ev2⟩ : ∃ y : Int32, y = x3 + 1 := ⟨_, rfl⟩
    have h := nmS h ev2
    refine lv_iinc (v := v2) (lv' := [(3, .int v2), (0, .ref (ad (182 + 6 * b0))), (1, .int x1), (2, .ref (ad 7))]) hx hb dX8_takeMembers_37 hl (k := 3) rfl (by rw [ev2]; rfl) (by decide) rfl (fun ls hl => ?_)
    have hl := lv_sub hl [1, 2, 3, 0] (l' := [(0, .ref (ad (182 + 6 * b0))), (1, .int x1), (2, .ref (ad 7)), (3, .int v2)]) rfl
    refine lv_goto (tgt := 7) hx hb dX8_takeMembers_40 (by decide) ?_
    exact hk7 σ1 x1 v2 H locs ls h hP hD hS hl
  have w7 : ∀ (n : Nat), ∀ (σ : S2) (x1 : Int32) (x3 : Int32) (H : Heap) (locs : List Loc) (ls : Array Slot), fX8_takeMembers_7 τ b0 n σ x1 x3 = some (r0, σ9) → va_P (dC, dI) vwCl (wG (cC cy ad τ) ad (182 + 6 * nb) σ) H → va_D A (wG (cC cy ad τ) ad (182 + 6 * nb) σ) → va_S A s.heap H locs → lv_has ls 4 [(0, .ref (ad (182 + 6 * b0))), (1, .int x1), (2, .ref (ad 7)), (3, .int x3)] → W p l e (headSpec wsX8_takeMembers ({ frames := 2, cells := 0, slots := 0, locals := 45 })).room s m (#[.ref (ad (182 + 6 * b0)), .int a1, .ref (ad 7)]) below meth c H locs 0 0 (MQ below (va_Qv (fun (_ : Unit) => True) (fun (_ : Unit) t => wAt (dC, dI) A (wG (cC cy ad τ) ad (182 + 6 * nb) σ9) t) A) (#[.ref (ad (182 + 6 * b0)), .int a1, .ref (ad 7)]) s 0 0 A) (F0 m 7 ls []) := by
    intro n
    induction n with
    | zero => intro σ x1 x3 H locs ls h; cases h
    | succ n ih =>
    intro σ x1 x3 H locs ls h hP hD hS hl
    unfold fX8_takeMembers_7 at h
    refine lv_iload_n hx hb dX8_takeMembers_7 rfl (lv_at hl 3 rfl) ?_
    refine lv_bipush (v := 12) hx hb dX8_takeMembers_8 (by decide) ?_
    refine lv_icmp_ge (tgt := 43) hx hb dX8_takeMembers_10 (by decide) (fun hcd => ?_) (fun hcd => ?_)
    · have h := cdP hcd h
      exact ux_vret hx hb hr h hP hD hS hlocks dX8_takeMembers_43
    · have h := cdN hcd h
      refine lv_aload_n hx hb dX8_takeMembers_13 rfl (lv_at hl 0 rfl) ?_
      refine ux_get (D := (dC, dI)) (ci := 8) (v := .ref (ad (182 + 6 * b0 + 1))) (C := RX8) (T := TX8) (M := 13) (fs := (oTB ad (182 + 6 * b0) (σ.1 (182 + 6 * b0)))) hx hb hts (fun _ h9 => List.mem_cons_of_mem _ (List.mem_append_left _ (List.mem_append_right _ h9))) hown hK hP (182 + 6 * b0) (by omega) (cC_t0 _ _ _ _ _ b0) rfl 8 (by decide) (hts (.fieldLink RX8 37 "SeatsRound$Table" "weight" "[I") (List.mem_of_getElem? (i := 2) rfl)) (fun _ h9 => h9) rfl dX8_takeMembers_14 ?_
      refine lv_iload_n hx hb dX8_takeMembers_17 rfl (lv_at hl 3 rfl) ?_
      refine lv_iload_n hx hb dX8_takeMembers_18 rfl (lv_at hl 1 rfl) ?_
      refine lv_iload_n hx hb dX8_takeMembers_19 rfl (lv_at hl 3 rfl) ?_
      refine lv_ishr hx hb dX8_takeMembers_20 ?_
      refine lv_iconst (v := 1) hx hb dX8_takeMembers_21 (by decide) ?_
      refine lv_iand hx hb dX8_takeMembers_22 ?_
      change W _ _ _ _ _ _ _ _ _ _ _ _ _ _ _ (F0 m 23 ls [.int ((x1 >>> (x3 &&& 31)) &&& 1), .int x3, .ref (ad (182 + 6 * b0 + 1))])
      refine lv_iconst (v := 1) hx hb dX8_takeMembers_23 (by decide) ?_
      refine lv_icmp_ne (tgt := 35) hx hb dX8_takeMembers_24 (by decide) (fun hcd => ?_) (fun hcd => ?_)
      · have h := cdN hcd h
        refine lv_iconst (v := 0) hx hb dX8_takeMembers_35 (by decide) ?_
        exact w36 _ ih σ x1 x3 0 x3 H locs ls h hP hD hS hl
      · have h := cdP hcd h
        refine lv_aload_n hx hb dX8_takeMembers_27 rfl (lv_at hl 2 rfl) ?_
        refine lv_iload_n hx hb dX8_takeMembers_28 rfl (lv_at hl 3 rfl) ?_
        obtain ⟨r3, hf4, h⟩ := biS h
        refine ux_calli (va_runV (As := [.int x3]) (rest := [.int x3, .ref (ad (182 + 6 * b0 + 1))]) ⟨hx, hb, hml, hown, hts⟩ (tX2_counting l dC dI cy ad τ nb hτ σ x3 H.size r3 hf4) (cwV 1 hts gX8_takeMembers_X2_counting rfl rfl rfl (by decide +kernel) ⟨Nat.le_of_ble_eq_true rfl, Nat.le_of_ble_eq_true rfl⟩) (wp_V hK hN hP hD (va_recv hK hP (ci := 2) (q0 := 7) rfl (wG_of (Nat.lt_of_lt_of_le (Nat.le_of_ble_eq_true rfl : 7 < 182) (Nat.le_add_right _ _)) (cC_7 _ _ _ _ _)))) rfl rfl hl.1 rfl (lv_room (Nat.le_of_ble_eq_true rfl)) dX8_takeMembers_29 ⟨Nat.le_of_ble_eq_true rfl, Nat.le_of_ble_eq_true rfl⟩) hD hS hA (fun H locs hP hD hS => ?_)
        refine lv_goto (tgt := 36) hx hb dX8_takeMembers_32 (by decide) ?_
        exact w36 _ ih σ x1 x3 r3 x3 H locs ls h hP hD hS hl
  have w0 : ∀ (σ : S2) (x1 : Int32) (H : Heap) (locs : List Loc) (ls : Array Slot), fX8_takeMembers_0 τ b0 σ x1 = some (r0, σ9) → va_P (dC, dI) vwCl (wG (cC cy ad τ) ad (182 + 6 * nb) σ) H → va_D A (wG (cC cy ad τ) ad (182 + 6 * nb) σ) → va_S A s.heap H locs → lv_has ls 4 [(0, .ref (ad (182 + 6 * b0))), (1, .int x1), (2, .ref (ad 7))] → W p l e (headSpec wsX8_takeMembers ({ frames := 2, cells := 0, slots := 0, locals := 45 })).room s m (#[.ref (ad (182 + 6 * b0)), .int a1, .ref (ad 7)]) below meth c H locs 0 0 (MQ below (va_Qv (fun (_ : Unit) => True) (fun (_ : Unit) t => wAt (dC, dI) A (wG (cC cy ad τ) ad (182 + 6 * nb) σ9) t) A) (#[.ref (ad (182 + 6 * b0)), .int a1, .ref (ad 7)]) s 0 0 A) (F0 m 0 ls []) := by
    intro σ x1 H locs ls h hP hD hS hl
    unfold fX8_takeMembers_0 at h
    refine lv_aload_n hx hb dX8_takeMembers_0 rfl (lv_at hl 0 rfl) ?_
    refine lv_iload_n hx hb dX8_takeMembers_1 rfl (lv_at hl 1 rfl) ?_
    refine ux_put (D := (dC, dI)) (ci := 8) (C := RX8) (T := TX8) (M := 13) (fs := (oTB ad (182 + 6 * b0) (σ.1 (182 + 6 * b0)))) hx hb hts (fun _ h9 => List.mem_cons_of_mem _ (List.mem_append_left _ (List.mem_append_right _ h9))) tyX8 tyX8_ok nmX8 hown hK hP hD hS (182 + 6 * b0) (by omega) (cC_t0 _ _ _ _ _ b0) rfl 0 (by decide) (hts (.fieldLink RX8 9 "SeatsRound$Table" "members" "I") (List.mem_of_getElem? (i := 1) rfl)) (fun _ h9 => h9) rfl (tyX8_ok 0 (by decide)) rfl rfl (Nat.le_of_ble_eq_true rfl) (oC_t_0 _ _ _ _ _ _ b0) h dX8_takeMembers_2 (fun σ5 H locs h hP hD hS => ?_)
    refine lv_iconst (v := 0) hx hb dX8_takeMembers_5 (by decide) ?_
    refine lv_istore_n (lv' := [(3, .int 0), (0, .ref (ad (182 + 6 * b0))), (1, .int x1), (2, .ref (ad 7))]) hx hb dX8_takeMembers_6 rfl hl (by decide) rfl (fun ls hl => ?_)
    have hl := lv_sub hl [1, 2, 3, 0] (l' := [(0, .ref (ad (182 + 6 * b0))), (1, .int x1), (2, .ref (ad 7)), (3, .int 0)]) rfl
    exact w7 FU σ5 x1 0 H locs ls h hP hD hS hl
  intro H locs ls h hP hD hS hl
  exact w0 σ a1 H locs ls h hP hD hS (lv_sub hl [0, 1, 2] rfl)

set_option maxHeartbeats 4000000 in
set_option maxRecDepth 100000 in
theorem tX8_firstFor (l : Launch) (dC : Nat → ClassId) (dI : Nat → Nat → Nat) (cy : Nat → ClassId) (ad : Nat → Nat) (τ nb : Nat) (hτ : τ < nb) (b0 : Nat) (hb0 : b0 < nb) (σ : S2) (a1 : Int32) (sz : Nat) (r0 : Int32) (h : fX8_firstFor τ b0 σ a1 = some r0) : Met l yX8_firstFor wsX8_firstFor ({ frames := 3, cells := 0, slots := 0, locals := 65 }) (va_Pc [.ref (ad (182 + 6 * b0)), .int a1] (wPre (dC, dI) cy (wG (cC cy ad τ) ad (182 + 6 * nb) σ) sz)) (va_Qi (fun (r : Int32) (_ : Unit) => r = r0) (fun (_ : Unit) t => wAt (dC, dI) (va_A (wG (cC cy ad τ) ad (182 + 6 * nb) σ) sz) (wG (cC cy ad τ) ad (182 + 6 * nb) σ) t) (va_A (wG (cC cy ad τ) ad (182 + 6 * nb) σ) sz)) 0 0 (va_A (wG (cC cy ad τ) ad (182 + 6 * nb) σ) sz) := by
  refine Met.ofW (cc := cX8_firstFor) (maxL := 6) (ret := (some .int)) (by decide) rfl ?_
  intro p e s m args below meth c s₁ B hml hv
  obtain ⟨rfl, hsz, hP, hK, hD0, hN⟩ := hv
  have hx := B.exec
  have hb := B.bytes
  have hr := B.returns
  have hts := atoms_spec (ws := wsX8_firstFor) B.pre
  have hown : s.vm.findClass RX8 = some m.cls := findClass_of_methodNamed B.named
  have hlocks := B.notSynchronized
  subst hsz
  have hD := hD0.self (sz := s.heap.size)
  generalize hAe : va_A (wG (cC cy ad τ) ad (182 + 6 * nb) σ) s.heap.size = A at hD ⊢
  have hA : ∀ q : Nat, s.heap.size ≤ q → A q := fun q h => by rw [← hAe]; exact Or.inr h
  have hS : va_S A s.heap s.heap [] := va_S.rf
  have hl := lv_entry ([.ref (ad (182 + 6 * b0)), .int a1]) (n := 6) (Nat.le_of_ble_eq_true rfl)
  rw [lg_entry_eq]
  generalize (lg_sl ([.ref (ad (182 + 6 * b0)), .int a1]) ++ List.replicate (6 - (lg_sl ([.ref (ad (182 + 6 * b0)), .int a1])).length) Slot.unset).toArray = ls at hl ⊢
  have hl : lv_has ls 6 [(0, .ref (ad (182 + 6 * b0))), (1, .int a1)] := hl
  unfold fX8_firstFor at h
  clear hAe hD0
  suffices HH : ∀ (H : Heap) (locs : List Loc) (ls : Array Slot), fX8_firstFor_0 τ b0 σ a1 = some r0 → va_P (dC, dI) vwCl (wG (cC cy ad τ) ad (182 + 6 * nb) σ) H → va_D A (wG (cC cy ad τ) ad (182 + 6 * nb) σ) → va_S A s.heap H locs → lv_has ls 6 [(0, .ref (ad (182 + 6 * b0))), (1, .int a1)] → W p l e (headSpec wsX8_firstFor ({ frames := 3, cells := 0, slots := 0, locals := 65 })).room s m (#[.ref (ad (182 + 6 * b0)), .int a1]) below meth c H locs 0 0 (MQ below (va_Qi (fun (r : Int32) (_ : Unit) => r = r0) (fun (_ : Unit) t => wAt (dC, dI) A (wG (cC cy ad τ) ad (182 + 6 * nb) σ) t) A) (#[.ref (ad (182 + 6 * b0)), .int a1]) s 0 0 A) (F0 m 0 ls []) from HH s.heap [] ls h hP hD hS hl
  have w70 : ∀ (k27 : S2 → Int32 → Int32 → Int32 → Int32 → Option Int32) (hk27 : ∀ (σ : S2) (x1 : Int32) (x2 : Int32) (x3 : Int32) (x4 : Int32) (H : Heap) (locs : List Loc) (ls : Array Slot), k27 σ x1 x2 x3 x4 = some r0 → va_P (dC, dI) vwCl (wG (cC cy ad τ) ad (182 + 6 * nb) σ) H → va_D A (wG (cC cy ad τ) ad (182 + 6 * nb) σ) → va_S A s.heap H locs → lv_has ls 6 [(0, .ref (ad (182 + 6 * b0))), (1, .int x1), (2, .int x2), (3, .int x3), (4, .int x4)] → W p l e (headSpec wsX8_firstFor ({ frames := 3, cells := 0, slots := 0, locals := 65 })).room s m (#[.ref (ad (182 + 6 * b0)), .int a1]) below meth c H locs 0 0 (MQ below (va_Qi (fun (r : Int32) (_ : Unit) => r = r0) (fun (_ : Unit) t => wAt (dC, dI) A (wG (cC cy ad τ) ad (182 + 6 * nb) σ) t) A) (#[.ref (ad (182 + 6 * b0)), .int a1]) s 0 0 A) (F0 m 27 ls [])) , ∀ (σ : S2) (x1 : Int32) (x2 : Int32) (x3 : Int32) (x4 : Int32) (H : Heap) (locs : List Loc) (ls : Array Slot), fX8_firstFor_70 τ b0 k27 σ x1 x2 x3 x4 = some r0 → va_P (dC, dI) vwCl (wG (cC cy ad τ) ad (182 + 6 * nb) σ) H → va_D A (wG (cC cy ad τ) ad (182 + 6 * nb) σ) → va_S A s.heap H locs → lv_has ls 6 [(0, .ref (ad (182 + 6 * b0))), (1, .int x1), (2, .int x2), (3, .int x3), (4, .int x4)] → W p l e (headSpec wsX8_firstFor ({ frames := 3, cells := 0, slots := 0, locals := 65 })).room s m (#[.ref (ad (182 + 6 * b0)), .int a1]) below meth c H locs 0 0 (MQ below (va_Qi (fun (r : Int32) (_ : Unit) => r = r0) (fun (_ : Unit) t => wAt (dC, dI) A (wG (cC cy ad τ) ad (182 + 6 * nb) σ) t) A) (#[.ref (ad (182 + 6 * b0)), .int a1]) s 0 0 A) (F0 m 70 ls []) := by
    intro k27 hk27 σ x1 x2 x3 x4 H locs ls h hP hD hS hl
    unfold fX8_firstFor_70 at h
    obtain ⟨v1, ev1⟩ : ∃ y : Int32, y = x4 + 1 := ⟨_, rfl⟩
    have h := nmS h ev1
    refine lv_iinc (v := v1) (lv' := [(4, .int v1), (0, .ref (ad (182 + 6 * b0))), (1, .int x1), (2, .int x2), (3, .int x3)]) hx hb dX8_firstFor_70 hl (k := 4) rfl (by rw [ev1]; rfl) (by decide) rfl (fun ls hl => ?_)
    have hl := lv_sub hl [1, 2, 3, 4, 0] (l' := [(0, .ref (ad (182 + 6 * b0))), (1, .int x1), (2, .int x2), (3, .int x3), (4, .int v1)]) rfl
    refine lv_goto (tgt := 27) hx hb dX8_firstFor_73 (by decide) ?_
    exact hk27 σ x1 x2 x3 v1 H locs ls h hP hD hS hl
  have w27 : ∀ (n : Nat), ∀ (σ : S2) (x1 : Int32) (x2 : Int32) (x3 : Int32) (x4 : Int32) (H : Heap) (locs : List Loc) (ls : Array Slot), fX8_firstFor_27 τ b0 n σ x1 x2 x3 x4 = some r0 → va_P (dC, dI) vwCl (wG (cC cy ad τ) ad (182 + 6 * nb) σ) H → va_D A (wG (cC cy ad τ) ad (182 + 6 * nb) σ) → va_S A s.heap H locs → lv_has ls 6 [(0, .ref (ad (182 + 6 * b0))), (1, .int x1), (2, .int x2), (3, .int x3), (4, .int x4)] → W p l e (headSpec wsX8_firstFor ({ frames := 3, cells := 0, slots := 0, locals := 65 })).room s m (#[.ref (ad (182 + 6 * b0)), .int a1]) below meth c H locs 0 0 (MQ below (va_Qi (fun (r : Int32) (_ : Unit) => r = r0) (fun (_ : Unit) t => wAt (dC, dI) A (wG (cC cy ad τ) ad (182 + 6 * nb) σ) t) A) (#[.ref (ad (182 + 6 * b0)), .int a1]) s 0 0 A) (F0 m 27 ls []) := by
    intro n
    induction n with
    | zero => intro σ x1 x2 x3 x4 H locs ls h; cases h
    | succ n ih =>
    intro σ x1 x2 x3 x4 H locs ls h hP hD hS hl
    unfold fX8_firstFor_27 at h
    refine lv_iload hx hb dX8_firstFor_27 (lv_at hl 4 rfl) ?_
    refine lv_bipush (v := 12) hx hb dX8_firstFor_29 (by decide) ?_
    refine lv_icmp_ge (tgt := 76) hx hb dX8_firstFor_31 (by decide) (fun hcd => ?_) (fun hcd => ?_)
    · have h := cdP hcd h
      refine lv_iload_n hx hb dX8_firstFor_76 rfl (lv_at hl 2 rfl) ?_
      exact ux_iretP hx hb hr h hP hD hS hlocks dX8_firstFor_77
    · have h := cdN hcd h
      refine lv_aload_n hx hb dX8_firstFor_34 rfl (lv_at hl 0 rfl) ?_
      refine ux_get (D := (dC, dI)) (ci := 8) (v := .int (σ.1 (182 + 6 * b0) 0)) (C := RX8) (T := TX8) (M := 13) (fs := (oTB ad (182 + 6 * b0) (σ.1 (182 + 6 * b0)))) hx hb hts (fun _ h9 => List.mem_cons_of_mem _ (List.mem_append_right _ h9)) hown hK hP (182 + 6 * b0) (by omega) (cC_t0 _ _ _ _ _ b0) rfl 0 (by decide) (hts (.fieldLink RX8 9 "SeatsRound$Table" "members" "I") (List.mem_of_getElem? (i := 4) rfl)) (fun _ h9 => h9) rfl dX8_firstFor_35 ?_
      refine lv_iload hx hb dX8_firstFor_38 (lv_at hl 4 rfl) ?_
      refine lv_ishr hx hb dX8_firstFor_40 ?_
      refine lv_iconst (v := 1) hx hb dX8_firstFor_41 (by decide) ?_
      refine lv_iand hx hb dX8_firstFor_42 ?_
      refine lv_if_ne (tgt := 49) hx hb dX8_firstFor_43 (by decide) (fun hcd => ?_) (fun hcd => ?_)
      · have h := cdN hcd h
        refine lv_aload_n hx hb dX8_firstFor_49 rfl (lv_at hl 0 rfl) ?_
        refine lv_iload hx hb dX8_firstFor_50 (lv_at hl 4 rfl) ?_
        refine lv_iload_n hx hb dX8_firstFor_52 rfl (lv_at hl 1 rfl) ?_
        obtain ⟨r2, hf3, h⟩ := biS h
        refine ux_calli (va_runV (As := [.int x4, .int x1]) (rest := []) ⟨hx, hb, hml, hown, hts⟩ (tX8_sumOf l dC dI cy ad τ nb hτ b0 (by omega) σ x4 x1 H.size r2 hf3) (cwV 2 hts gX8_firstFor_X8_sumOf rfl rfl rfl (by decide +kernel) ⟨Nat.le_of_ble_eq_true rfl, Nat.le_of_ble_eq_true rfl⟩) (wp_V hK hN hP hD (va_recv hK hP (ci := 8) (q0 := (182 + 6 * b0)) rfl (wG_of (by omega) (cC_t0 _ _ _ _ _ b0)))) rfl rfl hl.1 rfl (lv_room (Nat.le_of_ble_eq_true rfl)) dX8_firstFor_53 ⟨Nat.le_of_ble_eq_true rfl, Nat.le_of_ble_eq_true rfl⟩) hD hS hA (fun H locs hP hD hS => ?_)
        refine lv_istore (lv' := [(5, .int r2), (0, .ref (ad (182 + 6 * b0))), (1, .int x1), (2, .int x2), (3, .int x3), (4, .int x4)]) hx hb dX8_firstFor_56 hl (by decide) rfl (fun ls hl => ?_)
        have hl := lv_sub hl [1, 2, 3, 4, 5, 0] (l' := [(0, .ref (ad (182 + 6 * b0))), (1, .int x1), (2, .int x2), (3, .int x3), (4, .int x4), (5, .int r2)]) rfl
        refine lv_iload hx hb dX8_firstFor_58 (lv_at hl 5 rfl) ?_
        refine lv_iload_n hx hb dX8_firstFor_60 rfl (lv_at hl 3 rfl) ?_
        refine lv_icmp_le (tgt := 70) hx hb dX8_firstFor_61 (by decide) (fun hcd => ?_) (fun hcd => ?_)
        · have h := cdP hcd h
          exact w70 _ ih σ x1 x2 x3 x4 H locs ls h hP hD hS (lv_sub hl [0, 1, 2, 3, 4] rfl)
        · have h := cdN hcd h
          refine lv_iload hx hb dX8_firstFor_64 (lv_at hl 5 rfl) ?_
          refine lv_istore_n (lv' := [(3, .int r2), (0, .ref (ad (182 + 6 * b0))), (1, .int x1), (2, .int x2), (4, .int x4), (5, .int r2)]) hx hb dX8_firstFor_66 rfl hl (by decide) rfl (fun ls hl => ?_)
          have hl := lv_sub hl [1, 2, 3, 0, 4, 5] (l' := [(0, .ref (ad (182 + 6 * b0))), (1, .int x1), (2, .int x2), (3, .int r2), (4, .int x4), (5, .int r2)]) rfl
          refine lv_iload hx hb dX8_firstFor_67 (lv_at hl 4 rfl) ?_
          refine lv_istore_n (lv' := [(2, .int x4), (0, .ref (ad (182 + 6 * b0))), (1, .int x1), (3, .int r2), (4, .int x4), (5, .int r2)]) hx hb dX8_firstFor_69 rfl hl (by decide) rfl (fun ls hl => ?_)
          have hl := lv_sub hl [1, 2, 0, 3, 4, 5] (l' := [(0, .ref (ad (182 + 6 * b0))), (1, .int x1), (2, .int x4), (3, .int r2), (4, .int x4), (5, .int r2)]) rfl
          exact w70 _ ih σ x1 x4 r2 x4 H locs ls h hP hD hS (lv_sub hl [0, 1, 2, 3, 4] rfl)
      · have h := cdP hcd h
        refine lv_goto (tgt := 70) hx hb dX8_firstFor_46 (by decide) ?_
        exact w70 _ ih σ x1 x2 x3 x4 H locs ls h hP hD hS hl
  have w0 : ∀ (σ : S2) (x1 : Int32) (H : Heap) (locs : List Loc) (ls : Array Slot), fX8_firstFor_0 τ b0 σ x1 = some r0 → va_P (dC, dI) vwCl (wG (cC cy ad τ) ad (182 + 6 * nb) σ) H → va_D A (wG (cC cy ad τ) ad (182 + 6 * nb) σ) → va_S A s.heap H locs → lv_has ls 6 [(0, .ref (ad (182 + 6 * b0))), (1, .int x1)] → W p l e (headSpec wsX8_firstFor ({ frames := 3, cells := 0, slots := 0, locals := 65 })).room s m (#[.ref (ad (182 + 6 * b0)), .int a1]) below meth c H locs 0 0 (MQ below (va_Qi (fun (r : Int32) (_ : Unit) => r = r0) (fun (_ : Unit) t => wAt (dC, dI) A (wG (cC cy ad τ) ad (182 + 6 * nb) σ) t) A) (#[.ref (ad (182 + 6 * b0)), .int a1]) s 0 0 A) (F0 m 0 ls []) := by
    intro σ x1 H locs ls h hP hD hS hl
    unfold fX8_firstFor_0 at h
    refine lv_aload_n hx hb dX8_firstFor_0 rfl (lv_at hl 0 rfl) ?_
    refine ux_get (D := (dC, dI)) (ci := 8) (v := .int (σ.1 (182 + 6 * b0) 4)) (C := RX8) (T := TX8) (M := 13) (fs := (oTB ad (182 + 6 * b0) (σ.1 (182 + 6 * b0)))) hx hb hts (fun _ h9 => List.mem_cons_of_mem _ (List.mem_append_right _ h9)) hown hK hP (182 + 6 * b0) (by omega) (cC_t0 _ _ _ _ _ b0) rfl 4 (by decide) (hts (.fieldLink RX8 24 "SeatsRound$Table" "way" "I") (List.mem_of_getElem? (i := 1) rfl)) (fun _ h9 => h9) rfl dX8_firstFor_1 ?_
    refine lv_iconst (v := 1) hx hb dX8_firstFor_4 (by decide) ?_
    refine lv_icmp_eq (tgt := 20) hx hb dX8_firstFor_5 (by decide) (fun hcd => ?_) (fun hcd => ?_)
    · have h := cdP hcd h
      refine lv_iconst (v := (-1)) hx hb dX8_firstFor_20 (by decide) ?_
      refine lv_istore_n (lv' := [(2, .int (-1)), (0, .ref (ad (182 + 6 * b0))), (1, .int x1)]) hx hb dX8_firstFor_21 rfl hl (by decide) rfl (fun ls hl => ?_)
      have hl := lv_sub hl [1, 2, 0] (l' := [(0, .ref (ad (182 + 6 * b0))), (1, .int x1), (2, .int (-1))]) rfl
      refine lv_iconst (v := (-1)) hx hb dX8_firstFor_22 (by decide) ?_
      refine lv_istore_n (lv' := [(3, .int (-1)), (0, .ref (ad (182 + 6 * b0))), (1, .int x1), (2, .int (-1))]) hx hb dX8_firstFor_23 rfl hl (by decide) rfl (fun ls hl => ?_)
      have hl := lv_sub hl [1, 2, 3, 0] (l' := [(0, .ref (ad (182 + 6 * b0))), (1, .int x1), (2, .int (-1)), (3, .int (-1))]) rfl
      refine lv_iconst (v := 0) hx hb dX8_firstFor_24 (by decide) ?_
      refine lv_istore (lv' := [(4, .int 0), (0, .ref (ad (182 + 6 * b0))), (1, .int x1), (2, .int (-1)), (3, .int (-1))]) hx hb dX8_firstFor_25 hl (by decide) rfl (fun ls hl => ?_)
      have hl := lv_sub hl [1, 2, 3, 4, 0] (l' := [(0, .ref (ad (182 + 6 * b0))), (1, .int x1), (2, .int (-1)), (3, .int (-1)), (4, .int 0)]) rfl
      exact w27 FU σ x1 (-1) (-1) 0 H locs ls h hP hD hS hl
    · have h := cdN hcd h
      refine lv_aload_n hx hb dX8_firstFor_8 rfl (lv_at hl 0 rfl) ?_
      refine ux_get (D := (dC, dI)) (ci := 8) (v := .ref (ad (182 + 6 * b0 + 4))) (C := RX8) (T := TX8) (M := 13) (fs := (oTB ad (182 + 6 * b0) (σ.1 (182 + 6 * b0)))) hx hb hts (fun _ h9 => List.mem_cons_of_mem _ (List.mem_append_right _ h9)) hown hK hP (182 + 6 * b0) (by omega) (cC_t0 _ _ _ _ _ b0) rfl 11 (by decide) (hts (.fieldLink RX8 48 "SeatsRound$Table" "owner" "[B") (List.mem_of_getElem? (i := 2) rfl)) (fun _ h9 => h9) rfl dX8_firstFor_9 ?_
      refine lv_aload_n hx hb dX8_firstFor_12 rfl (lv_at hl 0 rfl) ?_
      refine ux_get (D := (dC, dI)) (ci := 8) (v := .ref (ad (182 + 6 * b0 + 5))) (C := RX8) (T := TX8) (M := 13) (fs := (oTB ad (182 + 6 * b0) (σ.1 (182 + 6 * b0)))) hx hb hts (fun _ h9 => List.mem_cons_of_mem _ (List.mem_append_right _ h9)) hown hK hP (182 + 6 * b0) (by omega) (cC_t0 _ _ _ _ _ b0) rfl 12 (by decide) (hts (.fieldLink RX8 51 "SeatsRound$Table" "ahead" "[S") (List.mem_of_getElem? (i := 3) rfl)) (fun _ h9 => h9) rfl dX8_firstFor_13 ?_
      refine lv_iload_n hx hb dX8_firstFor_16 rfl (lv_at hl 1 rfl) ?_
      refine ux_sald hx hb hK hP (182 + 6 * b0 + 5) 3 (by omega) (cC_t5 _ _ _ _ _ b0) rfl h dX8_firstFor_17 (fun v4 h => ?_)
      refine ux_bald hx hb hK hP (182 + 6 * b0 + 4) 1 (by omega) (cC_t4 _ _ _ _ _ b0) rfl h dX8_firstFor_18 (fun v5 h => ?_)
      exact ux_iretP hx hb hr h hP hD hS hlocks dX8_firstFor_19
  intro H locs ls h hP hD hS hl
  exact w0 σ a1 H locs ls h hP hD hS (lv_sub hl [0, 1] rfl)

set_option maxHeartbeats 4000000 in
set_option maxRecDepth 100000 in
theorem tX8_countOdds (l : Launch) (dC : Nat → ClassId) (dI : Nat → Nat → Nat) (cy : Nat → ClassId) (ad : Nat → Nat) (τ nb : Nat) (hτ : τ < nb) (b0 : Nat) (hb0 : b0 < nb) (σ : S2)  (sz : Nat) (r0 : Unit) (σ9 : S2) (h : fX8_countOdds τ b0 σ = some (r0, σ9)) : Met l yX8_countOdds wsX8_countOdds ({ frames := 4, cells := 0, slots := 0, locals := 90 }) (va_Pc [.ref (ad (182 + 6 * b0))] (wPre (dC, dI) cy (wG (cC cy ad τ) ad (182 + 6 * nb) σ) sz)) (va_Qv (fun (_ : Unit) => True) (fun (_ : Unit) t => wAt (dC, dI) (va_A (wG (cC cy ad τ) ad (182 + 6 * nb) σ) sz) (wG (cC cy ad τ) ad (182 + 6 * nb) σ9) t) (va_A (wG (cC cy ad τ) ad (182 + 6 * nb) σ) sz)) 0 0 (va_A (wG (cC cy ad τ) ad (182 + 6 * nb) σ) sz) := by
  refine Met.ofW (cc := cX8_countOdds) (maxL := 3) (ret := none) (by decide) rfl ?_
  intro p e s m args below meth c s₁ B hml hv
  obtain ⟨rfl, hsz, hP, hK, hD0, hN⟩ := hv
  have hx := B.exec
  have hb := B.bytes
  have hr := B.returns
  have hts := atoms_spec (ws := wsX8_countOdds) B.pre
  have hown : s.vm.findClass RX8 = some m.cls := findClass_of_methodNamed B.named
  have hlocks := B.notSynchronized
  subst hsz
  have hD := hD0.self (sz := s.heap.size)
  generalize hAe : va_A (wG (cC cy ad τ) ad (182 + 6 * nb) σ) s.heap.size = A at hD ⊢
  have hA : ∀ q : Nat, s.heap.size ≤ q → A q := fun q h => by rw [← hAe]; exact Or.inr h
  have hS : va_S A s.heap s.heap [] := va_S.rf
  have hl := lv_entry ([.ref (ad (182 + 6 * b0))]) (n := 3) (Nat.le_of_ble_eq_true rfl)
  rw [lg_entry_eq]
  generalize (lg_sl ([.ref (ad (182 + 6 * b0))]) ++ List.replicate (3 - (lg_sl ([.ref (ad (182 + 6 * b0))])).length) Slot.unset).toArray = ls at hl ⊢
  have hl : lv_has ls 3 [(0, .ref (ad (182 + 6 * b0)))] := hl
  unfold fX8_countOdds at h
  clear hAe hD0
  suffices HH : ∀ (H : Heap) (locs : List Loc) (ls : Array Slot), fX8_countOdds_0 τ b0 σ = some (r0, σ9) → va_P (dC, dI) vwCl (wG (cC cy ad τ) ad (182 + 6 * nb) σ) H → va_D A (wG (cC cy ad τ) ad (182 + 6 * nb) σ) → va_S A s.heap H locs → lv_has ls 3 [(0, .ref (ad (182 + 6 * b0)))] → W p l e (headSpec wsX8_countOdds ({ frames := 4, cells := 0, slots := 0, locals := 90 })).room s m (#[.ref (ad (182 + 6 * b0))]) below meth c H locs 0 0 (MQ below (va_Qv (fun (_ : Unit) => True) (fun (_ : Unit) t => wAt (dC, dI) A (wG (cC cy ad τ) ad (182 + 6 * nb) σ9) t) A) (#[.ref (ad (182 + 6 * b0))]) s 0 0 A) (F0 m 0 ls []) from HH s.heap [] ls h hP hD hS hl
  have w51 : ∀ (k18 : S2 → Int32 → Option (Unit × S2)) (hk18 : ∀ (σ : S2) (x1 : Int32) (H : Heap) (locs : List Loc) (ls : Array Slot), k18 σ x1 = some (r0, σ9) → va_P (dC, dI) vwCl (wG (cC cy ad τ) ad (182 + 6 * nb) σ) H → va_D A (wG (cC cy ad τ) ad (182 + 6 * nb) σ) → va_S A s.heap H locs → lv_has ls 3 [(0, .ref (ad (182 + 6 * b0))), (1, .int x1)] → W p l e (headSpec wsX8_countOdds ({ frames := 4, cells := 0, slots := 0, locals := 90 })).room s m (#[.ref (ad (182 + 6 * b0))]) below meth c H locs 0 0 (MQ below (va_Qv (fun (_ : Unit) => True) (fun (_ : Unit) t => wAt (dC, dI) A (wG (cC cy ad τ) ad (182 + 6 * nb) σ9) t) A) (#[.ref (ad (182 + 6 * b0))]) s 0 0 A) (F0 m 18 ls [])) , ∀ (σ : S2) (x1 : Int32) (H : Heap) (locs : List Loc) (ls : Array Slot), fX8_countOdds_51 τ b0 k18 σ x1 = some (r0, σ9) → va_P (dC, dI) vwCl (wG (cC cy ad τ) ad (182 + 6 * nb) σ) H → va_D A (wG (cC cy ad τ) ad (182 + 6 * nb) σ) → va_S A s.heap H locs → lv_has ls 3 [(0, .ref (ad (182 + 6 * b0))), (1, .int x1)] → W p l e (headSpec wsX8_countOdds ({ frames := 4, cells := 0, slots := 0, locals := 90 })).room s m (#[.ref (ad (182 + 6 * b0))]) below meth c H locs 0 0 (MQ below (va_Qv (fun (_ : Unit) => True) (fun (_ : Unit) t => wAt (dC, dI) A (wG (cC cy ad τ) ad (182 + 6 * nb) σ9) t) A) (#[.ref (ad (182 + 6 * b0))]) s 0 0 A) (F0 m 51 ls []) := by
    intro k18 hk18 σ x1 H locs ls h hP hD hS hl
    unfold fX8_countOdds_51 at h
    obtain ⟨v1, ev1⟩ : ∃ y : Int32, y = x1 + 1 := ⟨_, rfl⟩
    have h := nmS h ev1
    refine lv_iinc (v := v1) (lv' := [(1, .int v1), (0, .ref (ad (182 + 6 * b0)))]) hx hb dX8_countOdds_51 hl (k := 1) rfl (by rw [ev1]; rfl) (by decide) rfl (fun ls hl => ?_)
    have hl := lv_sub hl [1, 0] (l' := [(0, .ref (ad (182 + 6 * b0))), (1, .int v1)]) rfl
    refine lv_goto (tgt := 18) hx hb dX8_countOdds_54 (by decide) ?_
    exact hk18 σ v1 H locs ls h hP hD hS hl
  have w18 : ∀ (n : Nat), ∀ (σ : S2) (x1 : Int32) (H : Heap) (locs : List Loc) (ls : Array Slot), fX8_countOdds_18 τ b0 n σ x1 = some (r0, σ9) → va_P (dC, dI) vwCl (wG (cC cy ad τ) ad (182 + 6 * nb) σ) H → va_D A (wG (cC cy ad τ) ad (182 + 6 * nb) σ) → va_S A s.heap H locs → lv_has ls 3 [(0, .ref (ad (182 + 6 * b0))), (1, .int x1)] → W p l e (headSpec wsX8_countOdds ({ frames := 4, cells := 0, slots := 0, locals := 90 })).room s m (#[.ref (ad (182 + 6 * b0))]) below meth c H locs 0 0 (MQ below (va_Qv (fun (_ : Unit) => True) (fun (_ : Unit) t => wAt (dC, dI) A (wG (cC cy ad τ) ad (182 + 6 * nb) σ9) t) A) (#[.ref (ad (182 + 6 * b0))]) s 0 0 A) (F0 m 18 ls []) := by
    intro n
    induction n with
    | zero => intro σ x1 H locs ls h; cases h
    | succ n ih =>
    intro σ x1 H locs ls h hP hD hS hl
    unfold fX8_countOdds_18 at h
    refine lv_iload_n hx hb dX8_countOdds_18 rfl (lv_at hl 1 rfl) ?_
    refine lv_sipush (v := 1000) hx hb dX8_countOdds_19 (by decide) ?_
    refine lv_icmp_ge (tgt := 57) hx hb dX8_countOdds_22 (by decide) (fun hcd => ?_) (fun hcd => ?_)
    · have h := cdP hcd h
      refine lv_aload_n hx hb dX8_countOdds_57 rfl (lv_at hl 0 rfl) ?_
      refine lv_iconst (v := 1) hx hb dX8_countOdds_58 (by decide) ?_
      refine ux_put (D := (dC, dI)) (ci := 8) (C := RX8) (T := TX8) (M := 13) (fs := (oTB ad (182 + 6 * b0) (σ.1 (182 + 6 * b0)))) hx hb hts (fun _ h9 => List.mem_cons_of_mem _ (List.mem_append_right _ h9)) tyX8 tyX8_ok nmX8 hown hK hP hD hS (182 + 6 * b0) (by omega) (cC_t0 _ _ _ _ _ b0) rfl 7 (by decide) (hts (.fieldLink RX8 33 "SeatsRound$Table" "oddsCounted" "Z") (List.mem_of_getElem? (i := 1) rfl)) (fun _ h9 => h9) rfl (tyX8_ok 7 (by decide)) rfl rfl (Nat.le_of_ble_eq_true rfl) (oC_t_7 _ _ _ _ _ _ b0) h dX8_countOdds_59 (fun σ2 H locs h hP hD hS => ?_)
      exact ux_vret hx hb hr h hP hD hS hlocks dX8_countOdds_62
    · have h := cdN hcd h
      refine lv_aload_n hx hb dX8_countOdds_25 rfl (lv_at hl 0 rfl) ?_
      refine lv_iload_n hx hb dX8_countOdds_26 rfl (lv_at hl 1 rfl) ?_
      obtain ⟨r3, hf4, h⟩ := biS h
      refine ux_calli (va_runV (As := [.int x1]) (rest := []) ⟨hx, hb, hml, hown, hts⟩ (tX8_firstFor l dC dI cy ad τ nb hτ b0 (by omega) σ x1 H.size r3 hf4) (cwV 1 hts gX8_countOdds_X8_firstFor rfl rfl rfl (by decide +kernel) ⟨Nat.le_of_ble_eq_true rfl, Nat.le_of_ble_eq_true rfl⟩) (wp_V hK hN hP hD (va_recv hK hP (ci := 8) (q0 := (182 + 6 * b0)) rfl (wG_of (by omega) (cC_t0 _ _ _ _ _ b0)))) rfl rfl hl.1 rfl (lv_room (Nat.le_of_ble_eq_true rfl)) dX8_countOdds_27 ⟨Nat.le_of_ble_eq_true rfl, Nat.le_of_ble_eq_true rfl⟩) hD hS hA (fun H locs hP hD hS => ?_)
      refine lv_istore_n (lv' := [(2, .int r3), (0, .ref (ad (182 + 6 * b0))), (1, .int x1)]) hx hb dX8_countOdds_30 rfl hl (by decide) rfl (fun ls hl => ?_)
      have hl := lv_sub hl [1, 2, 0] (l' := [(0, .ref (ad (182 + 6 * b0))), (1, .int x1), (2, .int r3)]) rfl
      refine lv_iload_n hx hb dX8_countOdds_31 rfl (lv_at hl 2 rfl) ?_
      refine lv_if_lt (tgt := 51) hx hb dX8_countOdds_32 (by decide) (fun hcd => ?_) (fun hcd => ?_)
      · have h := cdP hcd h
        exact w51 _ ih σ x1 H locs ls h hP hD hS (lv_sub hl [0, 1] rfl)
      · have h := cdN hcd h
        refine lv_iload_n hx hb dX8_countOdds_35 rfl (lv_at hl 2 rfl) ?_
        refine lv_bipush (v := 12) hx hb dX8_countOdds_36 (by decide) ?_
        refine lv_icmp_ge (tgt := 51) hx hb dX8_countOdds_38 (by decide) (fun hcd => ?_) (fun hcd => ?_)
        · have h := cdP hcd h
          exact w51 _ ih σ x1 H locs ls h hP hD hS (lv_sub hl [0, 1] rfl)
        · have h := cdN hcd h
          refine lv_aload_n hx hb dX8_countOdds_41 rfl (lv_at hl 0 rfl) ?_
          refine ux_get (D := (dC, dI)) (ci := 8) (v := .ref (ad (182 + 6 * b0 + 2))) (C := RX8) (T := TX8) (M := 13) (fs := (oTB ad (182 + 6 * b0) (σ.1 (182 + 6 * b0)))) hx hb hts (fun _ h9 => List.mem_cons_of_mem _ (List.mem_append_right _ h9)) hown hK hP (182 + 6 * b0) (by omega) (cC_t0 _ _ _ _ _ b0) rfl 9 (by decide) (hts (.fieldLink RX8 41 "SeatsRound$Table" "odds" "[I") (List.mem_of_getElem? (i := 2) rfl)) (fun _ h9 => h9) rfl dX8_countOdds_42 ?_
          refine lv_iload_n hx hb dX8_countOdds_45 rfl (lv_at hl 2 rfl) ?_
          refine lv_dup2_11 hx hb dX8_countOdds_46 rfl rfl ?_
          refine ux_iald hx hb hK hP (182 + 6 * b0 + 2) 0 (by omega) (cC_t2 _ _ _ _ _ b0) rfl h dX8_countOdds_47 (fun v5 h => ?_)
          refine lv_iconst (v := 1) hx hb dX8_countOdds_48 (by decide) ?_
          refine lv_iadd hx hb dX8_countOdds_49 ?_
          refine ux_iast hx hb hK hP hD hS (182 + 6 * b0 + 2) 0 (by omega) (fun _ => (cC_t2 _ _ _ _ _ b0)) rfl h dX8_countOdds_50 (fun σ6 H locs h hP hD hS => ?_)
          exact w51 _ ih σ6 x1 H locs ls h hP hD hS (lv_sub hl [0, 1] rfl)
  have w0 : ∀ (σ : S2)  (H : Heap) (locs : List Loc) (ls : Array Slot), fX8_countOdds_0 τ b0 σ = some (r0, σ9) → va_P (dC, dI) vwCl (wG (cC cy ad τ) ad (182 + 6 * nb) σ) H → va_D A (wG (cC cy ad τ) ad (182 + 6 * nb) σ) → va_S A s.heap H locs → lv_has ls 3 [(0, .ref (ad (182 + 6 * b0)))] → W p l e (headSpec wsX8_countOdds ({ frames := 4, cells := 0, slots := 0, locals := 90 })).room s m (#[.ref (ad (182 + 6 * b0))]) below meth c H locs 0 0 (MQ below (va_Qv (fun (_ : Unit) => True) (fun (_ : Unit) t => wAt (dC, dI) A (wG (cC cy ad τ) ad (182 + 6 * nb) σ9) t) A) (#[.ref (ad (182 + 6 * b0))]) s 0 0 A) (F0 m 0 ls []) := by
    intro σ H locs ls h hP hD hS hl
    unfold fX8_countOdds_0 at h
    refine lv_aload_n hx hb dX8_countOdds_0 rfl (lv_at hl 0 rfl) ?_
    refine ux_get (D := (dC, dI)) (ci := 8) (v := .int (σ.1 (182 + 6 * b0) 7)) (C := RX8) (T := TX8) (M := 13) (fs := (oTB ad (182 + 6 * b0) (σ.1 (182 + 6 * b0)))) hx hb hts (fun _ h9 => List.mem_cons_of_mem _ (List.mem_append_right _ h9)) hown hK hP (182 + 6 * b0) (by omega) (cC_t0 _ _ _ _ _ b0) rfl 7 (by decide) (hts (.fieldLink RX8 33 "SeatsRound$Table" "oddsCounted" "Z") (List.mem_of_getElem? (i := 1) rfl)) (fun _ h9 => h9) rfl dX8_countOdds_1 ?_
    refine lv_if_eq (tgt := 8) hx hb dX8_countOdds_4 (by decide) (fun hcd => ?_) (fun hcd => ?_)
    · have h := cdP hcd h
      refine lv_aload_n hx hb dX8_countOdds_8 rfl (lv_at hl 0 rfl) ?_
      refine ux_get (D := (dC, dI)) (ci := 8) (v := .ref (ad (182 + 6 * b0 + 2))) (C := RX8) (T := TX8) (M := 13) (fs := (oTB ad (182 + 6 * b0) (σ.1 (182 + 6 * b0)))) hx hb hts (fun _ h9 => List.mem_cons_of_mem _ (List.mem_append_right _ h9)) hown hK hP (182 + 6 * b0) (by omega) (cC_t0 _ _ _ _ _ b0) rfl 9 (by decide) (hts (.fieldLink RX8 41 "SeatsRound$Table" "odds" "[I") (List.mem_of_getElem? (i := 2) rfl)) (fun _ h9 => h9) rfl dX8_countOdds_9 ?_
      refine lv_iconst (v := 0) hx hb dX8_countOdds_12 (by decide) ?_
      obtain ⟨r7, σ8, hf9, h⟩ := bsS h
      refine ux_callv (va_runS (As := [.ref (ad (182 + 6 * b0 + 2)), .int 0]) (rest := []) ⟨hx, hb, hml, hown, hts⟩ (tJ7_fill_53178 l dC dI cy ad τ nb hτ (182 + 6 * b0 + 2) 12 (by omega) (fun _ _ => (cC_t2 _ _ _ _ _ b0)) σ 0 H.size r7 σ8 hf9) (va_cwS 2 hts gX8_countOdds_J7_fill_53178 rfl rfl rfl (by decide +kernel) ⟨Nat.le_of_ble_eq_true rfl, Nat.le_of_ble_eq_true rfl⟩) (wp_S hK hN hP hD) rfl rfl hl.1 rfl (lv_room (Nat.le_of_ble_eq_true rfl)) dX8_countOdds_13 ⟨Nat.le_of_ble_eq_true rfl, Nat.le_of_ble_eq_true rfl⟩) hD hS hA (fun H locs hP hD hS => ?_)
      refine lv_iconst (v := 0) hx hb dX8_countOdds_16 (by decide) ?_
      refine lv_istore_n (lv' := [(1, .int 0), (0, .ref (ad (182 + 6 * b0)))]) hx hb dX8_countOdds_17 rfl hl (by decide) rfl (fun ls hl => ?_)
      have hl := lv_sub hl [1, 0] (l' := [(0, .ref (ad (182 + 6 * b0))), (1, .int 0)]) rfl
      exact w18 FU σ8 0 H locs ls h hP hD hS hl
    · have h := cdN hcd h
      exact ux_vret hx hb hr h hP hD hS hlocks dX8_countOdds_7
  intro H locs ls h hP hD hS hl
  exact w0 σ H locs ls h hP hD hS (lv_sub hl [0] rfl)

set_option maxHeartbeats 4000000 in
set_option maxRecDepth 100000 in
theorem tX8_unevenness (l : Launch) (dC : Nat → ClassId) (dI : Nat → Nat → Nat) (cy : Nat → ClassId) (ad : Nat → Nat) (τ nb : Nat) (hτ : τ < nb) (b0 : Nat) (hb0 : b0 < nb) (σ : S2)  (sz : Nat) (r0 : Int32) (σ9 : S2) (h : fX8_unevenness τ b0 σ = some (r0, σ9)) : Met l yX8_unevenness wsX8_unevenness ({ frames := 5, cells := 0, slots := 0, locals := 112 }) (va_Pc [.ref (ad (182 + 6 * b0))] (wPre (dC, dI) cy (wG (cC cy ad τ) ad (182 + 6 * nb) σ) sz)) (va_Qi (fun (r : Int32) (_ : Unit) => r = r0) (fun (_ : Unit) t => wAt (dC, dI) (va_A (wG (cC cy ad τ) ad (182 + 6 * nb) σ) sz) (wG (cC cy ad τ) ad (182 + 6 * nb) σ9) t) (va_A (wG (cC cy ad τ) ad (182 + 6 * nb) σ) sz)) 0 0 (va_A (wG (cC cy ad τ) ad (182 + 6 * nb) σ) sz) := by
  refine Met.ofW (cc := cX8_unevenness) (maxL := 4) (ret := (some .int)) (by decide) rfl ?_
  intro p e s m args below meth c s₁ B hml hv
  obtain ⟨rfl, hsz, hP, hK, hD0, hN⟩ := hv
  have hx := B.exec
  have hb := B.bytes
  have hr := B.returns
  have hts := atoms_spec (ws := wsX8_unevenness) B.pre
  have hown : s.vm.findClass RX8 = some m.cls := findClass_of_methodNamed B.named
  have hlocks := B.notSynchronized
  subst hsz
  have hD := hD0.self (sz := s.heap.size)
  generalize hAe : va_A (wG (cC cy ad τ) ad (182 + 6 * nb) σ) s.heap.size = A at hD ⊢
  have hA : ∀ q : Nat, s.heap.size ≤ q → A q := fun q h => by rw [← hAe]; exact Or.inr h
  have hS : va_S A s.heap s.heap [] := va_S.rf
  have hl := lv_entry ([.ref (ad (182 + 6 * b0))]) (n := 4) (Nat.le_of_ble_eq_true rfl)
  rw [lg_entry_eq]
  generalize (lg_sl ([.ref (ad (182 + 6 * b0))]) ++ List.replicate (4 - (lg_sl ([.ref (ad (182 + 6 * b0))])).length) Slot.unset).toArray = ls at hl ⊢
  have hl : lv_has ls 4 [(0, .ref (ad (182 + 6 * b0)))] := hl
  unfold fX8_unevenness at h
  clear hAe hD0
  suffices HH : ∀ (H : Heap) (locs : List Loc) (ls : Array Slot), fX8_unevenness_0 τ b0 σ = some (r0, σ9) → va_P (dC, dI) vwCl (wG (cC cy ad τ) ad (182 + 6 * nb) σ) H → va_D A (wG (cC cy ad τ) ad (182 + 6 * nb) σ) → va_S A s.heap H locs → lv_has ls 4 [(0, .ref (ad (182 + 6 * b0)))] → W p l e (headSpec wsX8_unevenness ({ frames := 5, cells := 0, slots := 0, locals := 112 })).room s m (#[.ref (ad (182 + 6 * b0))]) below meth c H locs 0 0 (MQ below (va_Qi (fun (r : Int32) (_ : Unit) => r = r0) (fun (_ : Unit) t => wAt (dC, dI) A (wG (cC cy ad τ) ad (182 + 6 * nb) σ9) t) A) (#[.ref (ad (182 + 6 * b0))]) s 0 0 A) (F0 m 0 ls []) from HH s.heap [] ls h hP hD hS hl
  have w54 : ∀ (k12 : S2 → Int32 → Int32 → Int32 → Option (Int32 × S2)) (hk12 : ∀ (σ : S2) (x1 : Int32) (x2 : Int32) (x3 : Int32) (H : Heap) (locs : List Loc) (ls : Array Slot), k12 σ x1 x2 x3 = some (r0, σ9) → va_P (dC, dI) vwCl (wG (cC cy ad τ) ad (182 + 6 * nb) σ) H → va_D A (wG (cC cy ad τ) ad (182 + 6 * nb) σ) → va_S A s.heap H locs → lv_has ls 4 [(0, .ref (ad (182 + 6 * b0))), (1, .int x1), (2, .int x2), (3, .int x3)] → W p l e (headSpec wsX8_unevenness ({ frames := 5, cells := 0, slots := 0, locals := 112 })).room s m (#[.ref (ad (182 + 6 * b0))]) below meth c H locs 0 0 (MQ below (va_Qi (fun (r : Int32) (_ : Unit) => r = r0) (fun (_ : Unit) t => wAt (dC, dI) A (wG (cC cy ad τ) ad (182 + 6 * nb) σ9) t) A) (#[.ref (ad (182 + 6 * b0))]) s 0 0 A) (F0 m 12 ls [])) , ∀ (σ : S2) (x1 : Int32) (x2 : Int32) (x3 : Int32) (H : Heap) (locs : List Loc) (ls : Array Slot), fX8_unevenness_54 τ b0 k12 σ x1 x2 x3 = some (r0, σ9) → va_P (dC, dI) vwCl (wG (cC cy ad τ) ad (182 + 6 * nb) σ) H → va_D A (wG (cC cy ad τ) ad (182 + 6 * nb) σ) → va_S A s.heap H locs → lv_has ls 4 [(0, .ref (ad (182 + 6 * b0))), (1, .int x1), (2, .int x2), (3, .int x3)] → W p l e (headSpec wsX8_unevenness ({ frames := 5, cells := 0, slots := 0, locals := 112 })).room s m (#[.ref (ad (182 + 6 * b0))]) below meth c H locs 0 0 (MQ below (va_Qi (fun (r : Int32) (_ : Unit) => r = r0) (fun (_ : Unit) t => wAt (dC, dI) A (wG (cC cy ad τ) ad (182 + 6 * nb) σ9) t) A) (#[.ref (ad (182 + 6 * b0))]) s 0 0 A) (F0 m 54 ls []) := by
    intro k12 hk12 σ x1 x2 x3 H locs ls h hP hD hS hl
    unfold fX8_unevenness_54 at h
    obtain ⟨v1, ev1⟩ : ∃ y : Int32, y = x3 + 1 := ⟨_, rfl⟩
    have h := nmS h ev1
    refine lv_iinc (v := v1) (lv' := [(3, .int v1), (0, .ref (ad (182 + 6 * b0))), (1, .int x1), (2, .int x2)]) hx hb dX8_unevenness_54 hl (k := 3) rfl (by rw [ev1]; rfl) (by decide) rfl (fun ls hl => ?_)
    have hl := lv_sub hl [1, 2, 3, 0] (l' := [(0, .ref (ad (182 + 6 * b0))), (1, .int x1), (2, .int x2), (3, .int v1)]) rfl
    refine lv_goto (tgt := 12) hx hb dX8_unevenness_57 (by decide) ?_
    exact hk12 σ x1 x2 v1 H locs ls h hP hD hS hl
  have w12 : ∀ (n : Nat), ∀ (σ : S2) (x1 : Int32) (x2 : Int32) (x3 : Int32) (H : Heap) (locs : List Loc) (ls : Array Slot), fX8_unevenness_12 τ b0 n σ x1 x2 x3 = some (r0, σ9) → va_P (dC, dI) vwCl (wG (cC cy ad τ) ad (182 + 6 * nb) σ) H → va_D A (wG (cC cy ad τ) ad (182 + 6 * nb) σ) → va_S A s.heap H locs → lv_has ls 4 [(0, .ref (ad (182 + 6 * b0))), (1, .int x1), (2, .int x2), (3, .int x3)] → W p l e (headSpec wsX8_unevenness ({ frames := 5, cells := 0, slots := 0, locals := 112 })).room s m (#[.ref (ad (182 + 6 * b0))]) below meth c H locs 0 0 (MQ below (va_Qi (fun (r : Int32) (_ : Unit) => r = r0) (fun (_ : Unit) t => wAt (dC, dI) A (wG (cC cy ad τ) ad (182 + 6 * nb) σ9) t) A) (#[.ref (ad (182 + 6 * b0))]) s 0 0 A) (F0 m 12 ls []) := by
    intro n
    induction n with
    | zero => intro σ x1 x2 x3 H locs ls h; cases h
    | succ n ih =>
    intro σ x1 x2 x3 H locs ls h hP hD hS hl
    unfold fX8_unevenness_12 at h
    refine lv_iload_n hx hb dX8_unevenness_12 rfl (lv_at hl 3 rfl) ?_
    refine lv_bipush (v := 12) hx hb dX8_unevenness_13 (by decide) ?_
    refine lv_icmp_ge (tgt := 60) hx hb dX8_unevenness_15 (by decide) (fun hcd => ?_) (fun hcd => ?_)
    · have h := cdP hcd h
      refine lv_iload_n hx hb dX8_unevenness_60 rfl (lv_at hl 2 rfl) ?_
      refine lv_iload_n hx hb dX8_unevenness_61 rfl (lv_at hl 1 rfl) ?_
      refine lv_isub hx hb dX8_unevenness_62 ?_
      exact ux_iret hx hb hr h hP hD hS hlocks dX8_unevenness_63
    · have h := cdN hcd h
      refine lv_aload_n hx hb dX8_unevenness_18 rfl (lv_at hl 0 rfl) ?_
      refine ux_get (D := (dC, dI)) (ci := 8) (v := .int (σ.1 (182 + 6 * b0) 0)) (C := RX8) (T := TX8) (M := 13) (fs := (oTB ad (182 + 6 * b0) (σ.1 (182 + 6 * b0)))) hx hb hts (fun _ h9 => List.mem_cons_of_mem _ (List.mem_append_right _ h9)) hown hK hP (182 + 6 * b0) (by omega) (cC_t0 _ _ _ _ _ b0) rfl 0 (by decide) (hts (.fieldLink RX8 9 "SeatsRound$Table" "members" "I") (List.mem_of_getElem? (i := 1) rfl)) (fun _ h9 => h9) rfl dX8_unevenness_19 ?_
      refine lv_iload_n hx hb dX8_unevenness_22 rfl (lv_at hl 3 rfl) ?_
      refine lv_ishr hx hb dX8_unevenness_23 ?_
      refine lv_iconst (v := 1) hx hb dX8_unevenness_24 (by decide) ?_
      refine lv_iand hx hb dX8_unevenness_25 ?_
      refine lv_if_ne (tgt := 32) hx hb dX8_unevenness_26 (by decide) (fun hcd => ?_) (fun hcd => ?_)
      · have h := cdN hcd h
        refine lv_iload_n hx hb dX8_unevenness_32 rfl (lv_at hl 1 rfl) ?_
        refine lv_aload_n hx hb dX8_unevenness_33 rfl (lv_at hl 0 rfl) ?_
        refine ux_get (D := (dC, dI)) (ci := 8) (v := .ref (ad (182 + 6 * b0 + 2))) (C := RX8) (T := TX8) (M := 13) (fs := (oTB ad (182 + 6 * b0) (σ.1 (182 + 6 * b0)))) hx hb hts (fun _ h9 => List.mem_cons_of_mem _ (List.mem_append_right _ h9)) hown hK hP (182 + 6 * b0) (by omega) (cC_t0 _ _ _ _ _ b0) rfl 9 (by decide) (hts (.fieldLink RX8 41 "SeatsRound$Table" "odds" "[I") (List.mem_of_getElem? (i := 2) rfl)) (fun _ h9 => h9) rfl dX8_unevenness_34 ?_
        refine lv_iload_n hx hb dX8_unevenness_37 rfl (lv_at hl 3 rfl) ?_
        refine ux_iald hx hb hK hP (182 + 6 * b0 + 2) 0 (by omega) (cC_t2 _ _ _ _ _ b0) rfl h dX8_unevenness_38 (fun v2 h => ?_)
        refine va_mmin hx hb (hml.trans hl.1.symm) hown (hts (.methodLink RX8 61 Lib.Math.min.name) (List.mem_of_getElem? (i := 3) rfl)) (hts (.static Lib.Math.min.name) (List.mem_of_getElem? (i := 4) rfl)) (hts (.initialized "java/lang/Math") (List.mem_of_getElem? (i := 5) rfl)) (hts (.code Lib.Math.min.name Lib.Math.min.code 2 (some .int)) (List.mem_of_getElem? (i := 6) rfl)) (Nat.le_of_ble_eq_true rfl) (Nat.le_of_ble_eq_true rfl) (Nat.le_of_ble_eq_true rfl) (Nat.le_of_ble_eq_true rfl) dX8_unevenness_39 ?_
        refine lv_topi (fun v3 ev3 => ?_)
        have h := nmS h ev3
        refine lv_istore_n (lv' := [(1, .int v3), (0, .ref (ad (182 + 6 * b0))), (2, .int x2), (3, .int x3)]) hx hb dX8_unevenness_42 rfl hl (by decide) rfl (fun ls hl => ?_)
        have hl := lv_sub hl [1, 0, 2, 3] (l' := [(0, .ref (ad (182 + 6 * b0))), (1, .int v3), (2, .int x2), (3, .int x3)]) rfl
        refine lv_iload_n hx hb dX8_unevenness_43 rfl (lv_at hl 2 rfl) ?_
        refine lv_aload_n hx hb dX8_unevenness_44 rfl (lv_at hl 0 rfl) ?_
        refine ux_get (D := (dC, dI)) (ci := 8) (v := .ref (ad (182 + 6 * b0 + 2))) (C := RX8) (T := TX8) (M := 13) (fs := (oTB ad (182 + 6 * b0) (σ.1 (182 + 6 * b0)))) hx hb hts (fun _ h9 => List.mem_cons_of_mem _ (List.mem_append_right _ h9)) hown hK hP (182 + 6 * b0) (by omega) (cC_t0 _ _ _ _ _ b0) rfl 9 (by decide) (hts (.fieldLink RX8 41 "SeatsRound$Table" "odds" "[I") (List.mem_of_getElem? (i := 2) rfl)) (fun _ h9 => h9) rfl dX8_unevenness_45 ?_
        refine lv_iload_n hx hb dX8_unevenness_48 rfl (lv_at hl 3 rfl) ?_
        refine ux_iald hx hb hK hP (182 + 6 * b0 + 2) 0 (by omega) (cC_t2 _ _ _ _ _ b0) rfl h dX8_unevenness_49 (fun v4 h => ?_)
        refine va_mmax hx hb (hml.trans hl.1.symm) hown (hts (.methodLink RX8 67 Lib.Math.max.name) (List.mem_of_getElem? (i := 7) rfl)) (hts (.static Lib.Math.max.name) (List.mem_of_getElem? (i := 8) rfl)) (hts (.initialized "java/lang/Math") (List.mem_of_getElem? (i := 5) rfl)) (hts (.code Lib.Math.max.name Lib.Math.max.code 2 (some .int)) (List.mem_of_getElem? (i := 9) rfl)) (Nat.le_of_ble_eq_true rfl) (Nat.le_of_ble_eq_true rfl) (Nat.le_of_ble_eq_true rfl) (Nat.le_of_ble_eq_true rfl) dX8_unevenness_50 ?_
        refine lv_topi (fun v5 ev5 => ?_)
        have h := nmS h ev5
        refine lv_istore_n (lv' := [(2, .int v5), (0, .ref (ad (182 + 6 * b0))), (1, .int v3), (3, .int x3)]) hx hb dX8_unevenness_53 rfl hl (by decide) rfl (fun ls hl => ?_)
        have hl := lv_sub hl [1, 2, 0, 3] (l' := [(0, .ref (ad (182 + 6 * b0))), (1, .int v3), (2, .int v5), (3, .int x3)]) rfl
        exact w54 _ ih σ v3 v5 x3 H locs ls h hP hD hS hl
      · have h := cdP hcd h
        refine lv_goto (tgt := 54) hx hb dX8_unevenness_29 (by decide) ?_
        exact w54 _ ih σ x1 x2 x3 H locs ls h hP hD hS hl
  have w0 : ∀ (σ : S2)  (H : Heap) (locs : List Loc) (ls : Array Slot), fX8_unevenness_0 τ b0 σ = some (r0, σ9) → va_P (dC, dI) vwCl (wG (cC cy ad τ) ad (182 + 6 * nb) σ) H → va_D A (wG (cC cy ad τ) ad (182 + 6 * nb) σ) → va_S A s.heap H locs → lv_has ls 4 [(0, .ref (ad (182 + 6 * b0)))] → W p l e (headSpec wsX8_unevenness ({ frames := 5, cells := 0, slots := 0, locals := 112 })).room s m (#[.ref (ad (182 + 6 * b0))]) below meth c H locs 0 0 (MQ below (va_Qi (fun (r : Int32) (_ : Unit) => r = r0) (fun (_ : Unit) t => wAt (dC, dI) A (wG (cC cy ad τ) ad (182 + 6 * nb) σ9) t) A) (#[.ref (ad (182 + 6 * b0))]) s 0 0 A) (F0 m 0 ls []) := by
    intro σ H locs ls h hP hD hS hl
    unfold fX8_unevenness_0 at h
    refine lv_aload_n hx hb dX8_unevenness_0 rfl (lv_at hl 0 rfl) ?_
    obtain ⟨r6, σ7, hf8, h⟩ := bsS h
    refine ux_callv (va_runV (As := []) (rest := []) ⟨hx, hb, hml, hown, hts⟩ (tX8_countOdds l dC dI cy ad τ nb hτ b0 (by omega) σ H.size r6 σ7 hf8) (cwV 0 hts gX8_unevenness_X8_countOdds rfl rfl rfl (by decide +kernel) ⟨Nat.le_of_ble_eq_true rfl, Nat.le_of_ble_eq_true rfl⟩) (wp_V hK hN hP hD (va_recv hK hP (ci := 8) (q0 := (182 + 6 * b0)) rfl (wG_of (by omega) (cC_t0 _ _ _ _ _ b0)))) rfl rfl hl.1 rfl (lv_room (Nat.le_of_ble_eq_true rfl)) dX8_unevenness_1 ⟨Nat.le_of_ble_eq_true rfl, Nat.le_of_ble_eq_true rfl⟩) hD hS hA (fun H locs hP hD hS => ?_)
    refine lv_sipush (v := 1000) hx hb dX8_unevenness_4 (by decide) ?_
    refine lv_istore_n (lv' := [(1, .int 1000), (0, .ref (ad (182 + 6 * b0)))]) hx hb dX8_unevenness_7 rfl hl (by decide) rfl (fun ls hl => ?_)
    have hl := lv_sub hl [1, 0] (l' := [(0, .ref (ad (182 + 6 * b0))), (1, .int 1000)]) rfl
    refine lv_iconst (v := 0) hx hb dX8_unevenness_8 (by decide) ?_
    refine lv_istore_n (lv' := [(2, .int 0), (0, .ref (ad (182 + 6 * b0))), (1, .int 1000)]) hx hb dX8_unevenness_9 rfl hl (by decide) rfl (fun ls hl => ?_)
    have hl := lv_sub hl [1, 2, 0] (l' := [(0, .ref (ad (182 + 6 * b0))), (1, .int 1000), (2, .int 0)]) rfl
    refine lv_iconst (v := 0) hx hb dX8_unevenness_10 (by decide) ?_
    refine lv_istore_n (lv' := [(3, .int 0), (0, .ref (ad (182 + 6 * b0))), (1, .int 1000), (2, .int 0)]) hx hb dX8_unevenness_11 rfl hl (by decide) rfl (fun ls hl => ?_)
    have hl := lv_sub hl [1, 2, 3, 0] (l' := [(0, .ref (ad (182 + 6 * b0))), (1, .int 1000), (2, .int 0), (3, .int 0)]) rfl
    exact w12 FU σ7 1000 0 0 H locs ls h hP hD hS hl
  intro H locs ls h hP hD hS hl
  exact w0 σ H locs ls h hP hD hS (lv_sub hl [0] rfl)

set_option maxHeartbeats 4000000 in
set_option maxRecDepth 100000 in
theorem tX8_alikeIn (l : Launch) (dC : Nat → ClassId) (dI : Nat → Nat → Nat) (cy : Nat → ClassId) (ad : Nat → Nat) (τ nb : Nat) (hτ : τ < nb) (b0 : Nat) (hb0 : b0 < nb) (b1 : Nat) (hb1 : b1 < nb) (σ : S2)  (sz : Nat) (r0 : Int32) (h : fX8_alikeIn τ b0 b1 σ = some r0) : Met l yX8_alikeIn wsX8_alikeIn ({ frames := 1, cells := 0, slots := 0, locals := 23 }) (va_Pc [.ref (ad (182 + 6 * b0)), .ref (ad (182 + 6 * b1))] (wPre (dC, dI) cy (wG (cC cy ad τ) ad (182 + 6 * nb) σ) sz)) (va_Qi (fun (r : Int32) (_ : Unit) => r = r0) (fun (_ : Unit) t => wAt (dC, dI) (va_A (wG (cC cy ad τ) ad (182 + 6 * nb) σ) sz) (wG (cC cy ad τ) ad (182 + 6 * nb) σ) t) (va_A (wG (cC cy ad τ) ad (182 + 6 * nb) σ) sz)) 0 0 (va_A (wG (cC cy ad τ) ad (182 + 6 * nb) σ) sz) := by
  refine Met.ofW (cc := cX8_alikeIn) (maxL := 4) (ret := (some .int)) (by decide) rfl ?_
  intro p e s m args below meth c s₁ B hml hv
  obtain ⟨rfl, hsz, hP, hK, hD0, hN⟩ := hv
  have hx := B.exec
  have hb := B.bytes
  have hr := B.returns
  have hts := atoms_spec (ws := wsX8_alikeIn) B.pre
  have hown : s.vm.findClass RX8 = some m.cls := findClass_of_methodNamed B.named
  have hlocks := B.notSynchronized
  subst hsz
  have hD := hD0.self (sz := s.heap.size)
  generalize hAe : va_A (wG (cC cy ad τ) ad (182 + 6 * nb) σ) s.heap.size = A at hD ⊢
  have hA : ∀ q : Nat, s.heap.size ≤ q → A q := fun q h => by rw [← hAe]; exact Or.inr h
  have hS : va_S A s.heap s.heap [] := va_S.rf
  have hl := lv_entry ([.ref (ad (182 + 6 * b0)), .ref (ad (182 + 6 * b1))]) (n := 4) (Nat.le_of_ble_eq_true rfl)
  rw [lg_entry_eq]
  generalize (lg_sl ([.ref (ad (182 + 6 * b0)), .ref (ad (182 + 6 * b1))]) ++ List.replicate (4 - (lg_sl ([.ref (ad (182 + 6 * b0)), .ref (ad (182 + 6 * b1))])).length) Slot.unset).toArray = ls at hl ⊢
  have hl : lv_has ls 4 [(0, .ref (ad (182 + 6 * b0))), (1, .ref (ad (182 + 6 * b1)))] := hl
  unfold fX8_alikeIn at h
  clear hAe hD0
  suffices HH : ∀ (H : Heap) (locs : List Loc) (ls : Array Slot), fX8_alikeIn_0 τ b0 b1 σ = some r0 → va_P (dC, dI) vwCl (wG (cC cy ad τ) ad (182 + 6 * nb) σ) H → va_D A (wG (cC cy ad τ) ad (182 + 6 * nb) σ) → va_S A s.heap H locs → lv_has ls 4 [(0, .ref (ad (182 + 6 * b0))), (1, .ref (ad (182 + 6 * b1)))] → W p l e (headSpec wsX8_alikeIn ({ frames := 1, cells := 0, slots := 0, locals := 23 })).room s m (#[.ref (ad (182 + 6 * b0)), .ref (ad (182 + 6 * b1))]) below meth c H locs 0 0 (MQ below (va_Qi (fun (r : Int32) (_ : Unit) => r = r0) (fun (_ : Unit) t => wAt (dC, dI) A (wG (cC cy ad τ) ad (182 + 6 * nb) σ) t) A) (#[.ref (ad (182 + 6 * b0)), .ref (ad (182 + 6 * b1))]) s 0 0 A) (F0 m 0 ls []) from HH s.heap [] ls h hP hD hS hl
  have w41 : ∀ (k12 : S2 → Int32 → Int32 → Option Int32) (hk12 : ∀ (σ : S2) (x2 : Int32) (x3 : Int32) (H : Heap) (locs : List Loc) (ls : Array Slot), k12 σ x2 x3 = some r0 → va_P (dC, dI) vwCl (wG (cC cy ad τ) ad (182 + 6 * nb) σ) H → va_D A (wG (cC cy ad τ) ad (182 + 6 * nb) σ) → va_S A s.heap H locs → lv_has ls 4 [(0, .ref (ad (182 + 6 * b0))), (1, .ref (ad (182 + 6 * b1))), (2, .int x2), (3, .int x3)] → W p l e (headSpec wsX8_alikeIn ({ frames := 1, cells := 0, slots := 0, locals := 23 })).room s m (#[.ref (ad (182 + 6 * b0)), .ref (ad (182 + 6 * b1))]) below meth c H locs 0 0 (MQ below (va_Qi (fun (r : Int32) (_ : Unit) => r = r0) (fun (_ : Unit) t => wAt (dC, dI) A (wG (cC cy ad τ) ad (182 + 6 * nb) σ) t) A) (#[.ref (ad (182 + 6 * b0)), .ref (ad (182 + 6 * b1))]) s 0 0 A) (F0 m 12 ls [])) , ∀ (σ : S2) (x2 : Int32) (x3 : Int32) (H : Heap) (locs : List Loc) (ls : Array Slot), fX8_alikeIn_41 τ b0 b1 k12 σ x2 x3 = some r0 → va_P (dC, dI) vwCl (wG (cC cy ad τ) ad (182 + 6 * nb) σ) H → va_D A (wG (cC cy ad τ) ad (182 + 6 * nb) σ) → va_S A s.heap H locs → lv_has ls 4 [(0, .ref (ad (182 + 6 * b0))), (1, .ref (ad (182 + 6 * b1))), (2, .int x2), (3, .int x3)] → W p l e (headSpec wsX8_alikeIn ({ frames := 1, cells := 0, slots := 0, locals := 23 })).room s m (#[.ref (ad (182 + 6 * b0)), .ref (ad (182 + 6 * b1))]) below meth c H locs 0 0 (MQ below (va_Qi (fun (r : Int32) (_ : Unit) => r = r0) (fun (_ : Unit) t => wAt (dC, dI) A (wG (cC cy ad τ) ad (182 + 6 * nb) σ) t) A) (#[.ref (ad (182 + 6 * b0)), .ref (ad (182 + 6 * b1))]) s 0 0 A) (F0 m 41 ls []) := by
    intro k12 hk12 σ x2 x3 H locs ls h hP hD hS hl
    unfold fX8_alikeIn_41 at h
    obtain ⟨v1, ev1⟩ : ∃ y : Int32, y = x3 + 1 := ⟨_, rfl⟩
    have h := nmS h ev1
    refine lv_iinc (v := v1) (lv' := [(3, .int v1), (0, .ref (ad (182 + 6 * b0))), (1, .ref (ad (182 + 6 * b1))), (2, .int x2)]) hx hb dX8_alikeIn_41 hl (k := 3) rfl (by rw [ev1]; rfl) (by decide) rfl (fun ls hl => ?_)
    have hl := lv_sub hl [1, 2, 3, 0] (l' := [(0, .ref (ad (182 + 6 * b0))), (1, .ref (ad (182 + 6 * b1))), (2, .int x2), (3, .int v1)]) rfl
    refine lv_goto (tgt := 12) hx hb dX8_alikeIn_44 (by decide) ?_
    exact hk12 σ x2 v1 H locs ls h hP hD hS hl
  have w12 : ∀ (n : Nat), ∀ (σ : S2) (x2 : Int32) (x3 : Int32) (H : Heap) (locs : List Loc) (ls : Array Slot), fX8_alikeIn_12 τ b0 b1 n σ x2 x3 = some r0 → va_P (dC, dI) vwCl (wG (cC cy ad τ) ad (182 + 6 * nb) σ) H → va_D A (wG (cC cy ad τ) ad (182 + 6 * nb) σ) → va_S A s.heap H locs → lv_has ls 4 [(0, .ref (ad (182 + 6 * b0))), (1, .ref (ad (182 + 6 * b1))), (2, .int x2), (3, .int x3)] → W p l e (headSpec wsX8_alikeIn ({ frames := 1, cells := 0, slots := 0, locals := 23 })).room s m (#[.ref (ad (182 + 6 * b0)), .ref (ad (182 + 6 * b1))]) below meth c H locs 0 0 (MQ below (va_Qi (fun (r : Int32) (_ : Unit) => r = r0) (fun (_ : Unit) t => wAt (dC, dI) A (wG (cC cy ad τ) ad (182 + 6 * nb) σ) t) A) (#[.ref (ad (182 + 6 * b0)), .ref (ad (182 + 6 * b1))]) s 0 0 A) (F0 m 12 ls []) := by
    intro n
    induction n with
    | zero => intro σ x2 x3 H locs ls h; cases h
    | succ n ih =>
    intro σ x2 x3 H locs ls h hP hD hS hl
    unfold fX8_alikeIn_12 at h
    refine lv_iload_n hx hb dX8_alikeIn_12 rfl (lv_at hl 3 rfl) ?_
    refine lv_bipush (v := 12) hx hb dX8_alikeIn_13 (by decide) ?_
    refine lv_icmp_ge (tgt := 47) hx hb dX8_alikeIn_15 (by decide) (fun hcd => ?_) (fun hcd => ?_)
    · have h := cdP hcd h
      refine lv_iload_n hx hb dX8_alikeIn_47 rfl (lv_at hl 2 rfl) ?_
      exact ux_iretP hx hb hr h hP hD hS hlocks dX8_alikeIn_48
    · have h := cdN hcd h
      refine lv_aload_n hx hb dX8_alikeIn_18 rfl (lv_at hl 0 rfl) ?_
      refine ux_get (D := (dC, dI)) (ci := 8) (v := .ref (ad (182 + 6 * b0 + 1))) (C := RX8) (T := TX8) (M := 13) (fs := (oTB ad (182 + 6 * b0) (σ.1 (182 + 6 * b0)))) hx hb hts (fun _ h9 => List.mem_cons_of_mem _ (List.mem_append_right _ h9)) hown hK hP (182 + 6 * b0) (by omega) (cC_t0 _ _ _ _ _ b0) rfl 8 (by decide) (hts (.fieldLink RX8 37 "SeatsRound$Table" "weight" "[I") (List.mem_of_getElem? (i := 2) rfl)) (fun _ h9 => h9) rfl dX8_alikeIn_19 ?_
      refine lv_iload_n hx hb dX8_alikeIn_22 rfl (lv_at hl 3 rfl) ?_
      refine ux_iald hx hb hK hP (182 + 6 * b0 + 1) 0 (by omega) (cC_t1 _ _ _ _ _ b0) rfl h dX8_alikeIn_23 (fun v2 h => ?_)
      refine lv_aload_n hx hb dX8_alikeIn_24 rfl (lv_at hl 1 rfl) ?_
      refine ux_get (D := (dC, dI)) (ci := 8) (v := .ref (ad (182 + 6 * b1 + 1))) (C := RX8) (T := TX8) (M := 13) (fs := (oTB ad (182 + 6 * b1) (σ.1 (182 + 6 * b1)))) hx hb hts (fun _ h9 => List.mem_cons_of_mem _ (List.mem_append_right _ h9)) hown hK hP (182 + 6 * b1) (by omega) (cC_t0 _ _ _ _ _ b1) rfl 8 (by decide) (hts (.fieldLink RX8 37 "SeatsRound$Table" "weight" "[I") (List.mem_of_getElem? (i := 2) rfl)) (fun _ h9 => h9) rfl dX8_alikeIn_25 ?_
      refine lv_iload_n hx hb dX8_alikeIn_28 rfl (lv_at hl 3 rfl) ?_
      refine ux_iald hx hb hK hP (182 + 6 * b1 + 1) 0 (by omega) (cC_t1 _ _ _ _ _ b1) rfl h dX8_alikeIn_29 (fun v3 h => ?_)
      refine lv_icmp_eq (tgt := 41) hx hb dX8_alikeIn_30 (by decide) (fun hcd => ?_) (fun hcd => ?_)
      · have h := cdP hcd h
        exact w41 _ ih σ x2 x3 H locs ls h hP hD hS hl
      · have h := cdN hcd h
        refine lv_iload_n hx hb dX8_alikeIn_33 rfl (lv_at hl 2 rfl) ?_
        refine lv_iconst (v := 1) hx hb dX8_alikeIn_34 (by decide) ?_
        refine lv_iload_n hx hb dX8_alikeIn_35 rfl (lv_at hl 3 rfl) ?_
        refine lv_ishl hx hb dX8_alikeIn_36 ?_
        refine lv_iconst (v := (-1)) hx hb dX8_alikeIn_37 (by decide) ?_
        refine lv_ixor hx hb dX8_alikeIn_38 ?_
        refine lv_iand hx hb dX8_alikeIn_39 ?_
        refine lv_topi (fun v4 ev4 => ?_)
        have h := nmS h ev4
        refine lv_istore_n (lv' := [(2, .int v4), (0, .ref (ad (182 + 6 * b0))), (1, .ref (ad (182 + 6 * b1))), (3, .int x3)]) hx hb dX8_alikeIn_40 rfl hl (by decide) rfl (fun ls hl => ?_)
        have hl := lv_sub hl [1, 2, 0, 3] (l' := [(0, .ref (ad (182 + 6 * b0))), (1, .ref (ad (182 + 6 * b1))), (2, .int v4), (3, .int x3)]) rfl
        change W _ _ _ _ _ _ _ _ _ _ _ _ _ _ _ (F0 m 41 ls [])
        exact w41 _ ih σ v4 x3 H locs ls h hP hD hS hl
  have w0 : ∀ (σ : S2)  (H : Heap) (locs : List Loc) (ls : Array Slot), fX8_alikeIn_0 τ b0 b1 σ = some r0 → va_P (dC, dI) vwCl (wG (cC cy ad τ) ad (182 + 6 * nb) σ) H → va_D A (wG (cC cy ad τ) ad (182 + 6 * nb) σ) → va_S A s.heap H locs → lv_has ls 4 [(0, .ref (ad (182 + 6 * b0))), (1, .ref (ad (182 + 6 * b1)))] → W p l e (headSpec wsX8_alikeIn ({ frames := 1, cells := 0, slots := 0, locals := 23 })).room s m (#[.ref (ad (182 + 6 * b0)), .ref (ad (182 + 6 * b1))]) below meth c H locs 0 0 (MQ below (va_Qi (fun (r : Int32) (_ : Unit) => r = r0) (fun (_ : Unit) t => wAt (dC, dI) A (wG (cC cy ad τ) ad (182 + 6 * nb) σ) t) A) (#[.ref (ad (182 + 6 * b0)), .ref (ad (182 + 6 * b1))]) s 0 0 A) (F0 m 0 ls []) := by
    intro σ H locs ls h hP hD hS hl
    unfold fX8_alikeIn_0 at h
    refine lv_aload_n hx hb dX8_alikeIn_0 rfl (lv_at hl 0 rfl) ?_
    refine ux_get (D := (dC, dI)) (ci := 8) (v := .int (σ.1 (182 + 6 * b0) 0)) (C := RX8) (T := TX8) (M := 13) (fs := (oTB ad (182 + 6 * b0) (σ.1 (182 + 6 * b0)))) hx hb hts (fun _ h9 => List.mem_cons_of_mem _ (List.mem_append_right _ h9)) hown hK hP (182 + 6 * b0) (by omega) (cC_t0 _ _ _ _ _ b0) rfl 0 (by decide) (hts (.fieldLink RX8 9 "SeatsRound$Table" "members" "I") (List.mem_of_getElem? (i := 1) rfl)) (fun _ h9 => h9) rfl dX8_alikeIn_1 ?_
    refine lv_aload_n hx hb dX8_alikeIn_4 rfl (lv_at hl 1 rfl) ?_
    refine ux_get (D := (dC, dI)) (ci := 8) (v := .int (σ.1 (182 + 6 * b1) 0)) (C := RX8) (T := TX8) (M := 13) (fs := (oTB ad (182 + 6 * b1) (σ.1 (182 + 6 * b1)))) hx hb hts (fun _ h9 => List.mem_cons_of_mem _ (List.mem_append_right _ h9)) hown hK hP (182 + 6 * b1) (by omega) (cC_t0 _ _ _ _ _ b1) rfl 0 (by decide) (hts (.fieldLink RX8 9 "SeatsRound$Table" "members" "I") (List.mem_of_getElem? (i := 1) rfl)) (fun _ h9 => h9) rfl dX8_alikeIn_5 ?_
    refine lv_iand hx hb dX8_alikeIn_8 ?_
    refine lv_topi (fun v5 ev5 => ?_)
    have h := nmS h ev5
    refine lv_istore_n (lv' := [(2, .int v5), (0, .ref (ad (182 + 6 * b0))), (1, .ref (ad (182 + 6 * b1)))]) hx hb dX8_alikeIn_9 rfl hl (by decide) rfl (fun ls hl => ?_)
    have hl := lv_sub hl [1, 2, 0] (l' := [(0, .ref (ad (182 + 6 * b0))), (1, .ref (ad (182 + 6 * b1))), (2, .int v5)]) rfl
    refine lv_iconst (v := 0) hx hb dX8_alikeIn_10 (by decide) ?_
    refine lv_istore_n (lv' := [(3, .int 0), (0, .ref (ad (182 + 6 * b0))), (1, .ref (ad (182 + 6 * b1))), (2, .int v5)]) hx hb dX8_alikeIn_11 rfl hl (by decide) rfl (fun ls hl => ?_)
    have hl := lv_sub hl [1, 2, 3, 0] (l' := [(0, .ref (ad (182 + 6 * b0))), (1, .ref (ad (182 + 6 * b1))), (2, .int v5), (3, .int 0)]) rfl
    exact w12 FU σ v5 0 H locs ls h hP hD hS hl
  intro H locs ls h hP hD hS hl
  exact w0 σ H locs ls h hP hD hS (lv_sub hl [0, 1] rfl)

set_option maxHeartbeats 4000000 in
set_option maxRecDepth 100000 in
theorem tX9_append (l : Launch) (dC : Nat → ClassId) (dI : Nat → Nat → Nat) (cy : Nat → ClassId) (ad : Nat → Nat) (τ nb : Nat) (hτ : τ < nb) (σ : S2) (a1 : Int32) (a2 : Int32) (sz : Nat) (r0 : Unit) (σ9 : S2) (h : fX9_append τ σ a1 a2 = some (r0, σ9)) : Met l yX9_append wsX9_append ({ frames := 1, cells := 0, slots := 0, locals := 23 }) (va_Pc [.ref (ad 1), .int a1, .int a2] (wPre (dC, dI) cy (wG (cC cy ad τ) ad (182 + 6 * nb) σ) sz)) (va_Qv (fun (_ : Unit) => True) (fun (_ : Unit) t => wAt (dC, dI) (va_A (wG (cC cy ad τ) ad (182 + 6 * nb) σ) sz) (wG (cC cy ad τ) ad (182 + 6 * nb) σ9) t) (va_A (wG (cC cy ad τ) ad (182 + 6 * nb) σ) sz)) 0 0 (va_A (wG (cC cy ad τ) ad (182 + 6 * nb) σ) sz) := by
  refine Met.ofW (cc := cX9_append) (maxL := 4) (ret := none) (by decide) rfl ?_
  intro p e s m args below meth c s₁ B hml hv
  obtain ⟨rfl, hsz, hP, hK, hD0, hN⟩ := hv
  have hx := B.exec
  have hb := B.bytes
  have hr := B.returns
  have hts := atoms_spec (ws := wsX9_append) B.pre
  have hown : s.vm.findClass RX9 = some m.cls := findClass_of_methodNamed B.named
  have hlocks := B.notSynchronized
  subst hsz
  have hD := hD0.self (sz := s.heap.size)
  generalize hAe : va_A (wG (cC cy ad τ) ad (182 + 6 * nb) σ) s.heap.size = A at hD ⊢
  have hA : ∀ q : Nat, s.heap.size ≤ q → A q := fun q h => by rw [← hAe]; exact Or.inr h
  have hS : va_S A s.heap s.heap [] := va_S.rf
  have hl := lv_entry ([.ref (ad 1), .int a1, .int a2]) (n := 4) (Nat.le_of_ble_eq_true rfl)
  rw [lg_entry_eq]
  generalize (lg_sl ([.ref (ad 1), .int a1, .int a2]) ++ List.replicate (4 - (lg_sl ([.ref (ad 1), .int a1, .int a2])).length) Slot.unset).toArray = ls at hl ⊢
  have hl : lv_has ls 4 [(0, .ref (ad 1)), (1, .int a1), (2, .int a2)] := hl
  unfold fX9_append at h
  clear hAe hD0
  suffices HH : ∀ (H : Heap) (locs : List Loc) (ls : Array Slot), fX9_append_0 τ σ a1 a2 = some (r0, σ9) → va_P (dC, dI) vwCl (wG (cC cy ad τ) ad (182 + 6 * nb) σ) H → va_D A (wG (cC cy ad τ) ad (182 + 6 * nb) σ) → va_S A s.heap H locs → lv_has ls 4 [(0, .ref (ad 1)), (1, .int a1), (2, .int a2)] → W p l e (headSpec wsX9_append ({ frames := 1, cells := 0, slots := 0, locals := 23 })).room s m (#[.ref (ad 1), .int a1, .int a2]) below meth c H locs 0 0 (MQ below (va_Qv (fun (_ : Unit) => True) (fun (_ : Unit) t => wAt (dC, dI) A (wG (cC cy ad τ) ad (182 + 6 * nb) σ9) t) A) (#[.ref (ad 1), .int a1, .int a2]) s 0 0 A) (F0 m 0 ls []) from HH s.heap [] ls h hP hD hS hl
  have w2 : ∀ (n : Nat), ∀ (σ : S2) (x1 : Int32) (x2 : Int32) (x3 : Int32) (H : Heap) (locs : List Loc) (ls : Array Slot), fX9_append_2 τ n σ x1 x2 x3 = some (r0, σ9) → va_P (dC, dI) vwCl (wG (cC cy ad τ) ad (182 + 6 * nb) σ) H → va_D A (wG (cC cy ad τ) ad (182 + 6 * nb) σ) → va_S A s.heap H locs → lv_has ls 4 [(0, .ref (ad 1)), (1, .int x1), (2, .int x2), (3, .int x3)] → W p l e (headSpec wsX9_append ({ frames := 1, cells := 0, slots := 0, locals := 23 })).room s m (#[.ref (ad 1), .int a1, .int a2]) below meth c H locs 0 0 (MQ below (va_Qv (fun (_ : Unit) => True) (fun (_ : Unit) t => wAt (dC, dI) A (wG (cC cy ad τ) ad (182 + 6 * nb) σ9) t) A) (#[.ref (ad 1), .int a1, .int a2]) s 0 0 A) (F0 m 2 ls []) := by
    intro n
    induction n with
    | zero => intro σ x1 x2 x3 H locs ls h; cases h
    | succ n ih =>
    intro σ x1 x2 x3 H locs ls h hP hD hS hl
    unfold fX9_append_2 at h
    refine lv_iload_n hx hb dX9_append_2 rfl (lv_at hl 3 rfl) ?_
    refine lv_iload_n hx hb dX9_append_3 rfl (lv_at hl 1 rfl) ?_
    refine lv_icmp_ge (tgt := 48) hx hb dX9_append_4 (by decide) (fun hcd => ?_) (fun hcd => ?_)
    · have h := cdP hcd h
      exact ux_vret hx hb hr h hP hD hS hlocks dX9_append_48
    · have h := cdN hcd h
      refine lv_aload_n hx hb dX9_append_7 rfl (lv_at hl 0 rfl) ?_
      refine ux_get (D := (dC, dI)) (ci := 9) (v := .int (σ.1 1 1)) (C := RX9) (T := TX9) (M := 2) (fs := (oTP ad (σ.1 1))) hx hb hts (fun _ h9 => List.mem_cons_of_mem _ (List.mem_append_right _ h9)) hown hK hP 1 (Nat.lt_of_lt_of_le (Nat.le_of_ble_eq_true rfl : 1 < 182) (Nat.le_add_right _ _)) (cC_1 _ _ _ _ _) rfl 1 (by decide) (hts (.fieldLink RX9 15 "SeatsRound$Tape" "length" "I") (List.mem_of_getElem? (i := 1) rfl)) (fun _ h9 => h9) rfl dX9_append_8 ?_
      refine lv_bipush (v := 80) hx hb dX9_append_11 (by decide) ?_
      refine lv_icmp_ge (tgt := 48) hx hb dX9_append_13 (by decide) (fun hcd => ?_) (fun hcd => ?_)
      · have h := cdP hcd h
        exact ux_vret hx hb hr h hP hD hS hlocks dX9_append_48
      · have h := cdN hcd h
        refine lv_aload_n hx hb dX9_append_16 rfl (lv_at hl 0 rfl) ?_
        refine ux_get (D := (dC, dI)) (ci := 9) (v := .ref (ad 2)) (C := RX9) (T := TX9) (M := 2) (fs := (oTP ad (σ.1 1))) hx hb hts (fun _ h9 => List.mem_cons_of_mem _ (List.mem_append_right _ h9)) hown hK hP 1 (Nat.lt_of_lt_of_le (Nat.le_of_ble_eq_true rfl : 1 < 182) (Nat.le_add_right _ _)) (cC_1 _ _ _ _ _) rfl 0 (by decide) (hts (.fieldLink RX9 9 "SeatsRound$Tape" "bytes" "[B") (List.mem_of_getElem? (i := 2) rfl)) (fun _ h9 => h9) rfl dX9_append_17 ?_
        refine lv_aload_n hx hb dX9_append_20 rfl (lv_at hl 0 rfl) ?_
        refine ux_get (D := (dC, dI)) (ci := 9) (v := .int (σ.1 1 1)) (C := RX9) (T := TX9) (M := 2) (fs := (oTP ad (σ.1 1))) hx hb hts (fun _ h9 => List.mem_cons_of_mem _ (List.mem_append_right _ h9)) hown hK hP 1 (Nat.lt_of_lt_of_le (Nat.le_of_ble_eq_true rfl : 1 < 182) (Nat.le_add_right _ _)) (cC_1 _ _ _ _ _) rfl 1 (by decide) (hts (.fieldLink RX9 15 "SeatsRound$Tape" "length" "I") (List.mem_of_getElem? (i := 1) rfl)) (fun _ h9 => h9) rfl dX9_append_21 ?_
        refine lv_iload_n hx hb dX9_append_24 rfl (lv_at hl 2 rfl) ?_
        refine lv_bipush (v := 8) hx hb dX9_append_25 (by decide) ?_
        refine lv_iload_n hx hb dX9_append_27 rfl (lv_at hl 3 rfl) ?_
        refine lv_imul hx hb dX9_append_28 ?_
        change W _ _ _ _ _ _ _ _ _ _ _ _ _ _ _ (F0 m 29 ls [.int (8 * x3), .int x2, .int (σ.1 1 1), .ref (ad 2)])
        refine lv_iushr hx hb dX9_append_29 rfl ?_
        refine lv_i2b hx hb dX9_append_30 rfl ?_
        refine ux_bast hx hb hK hP hD hS 2 1 (Nat.lt_of_lt_of_le (Nat.le_of_ble_eq_true rfl : 2 < 182) (Nat.le_add_right _ _)) (fun _ => (cC_2 _ _ _ _ _)) rfl h dX9_append_31 (fun σ1 H locs h hP hD hS => ?_)
        refine lv_aload_n hx hb dX9_append_32 rfl (lv_at hl 0 rfl) ?_
        refine lv_dup hx hb dX9_append_33 rfl ?_
        refine ux_get (D := (dC, dI)) (ci := 9) (v := .int (σ1.1 1 1)) (C := RX9) (T := TX9) (M := 2) (fs := (oTP ad (σ1.1 1))) hx hb hts (fun _ h9 => List.mem_cons_of_mem _ (List.mem_append_right _ h9)) hown hK hP 1 (Nat.lt_of_lt_of_le (Nat.le_of_ble_eq_true rfl : 1 < 182) (Nat.le_add_right _ _)) (cC_1 _ _ _ _ _) rfl 1 (by decide) (hts (.fieldLink RX9 15 "SeatsRound$Tape" "length" "I") (List.mem_of_getElem? (i := 1) rfl)) (fun _ h9 => h9) rfl dX9_append_34 ?_
        refine lv_iconst (v := 1) hx hb dX9_append_37 (by decide) ?_
        refine lv_iadd hx hb dX9_append_38 ?_
        refine ux_put (D := (dC, dI)) (ci := 9) (C := RX9) (T := TX9) (M := 2) (fs := (oTP ad (σ1.1 1))) hx hb hts (fun _ h9 => List.mem_cons_of_mem _ (List.mem_append_right _ h9)) tyX9 tyX9_ok nmX9 hown hK hP hD hS 1 (Nat.lt_of_lt_of_le (Nat.le_of_ble_eq_true rfl : 1 < 182) (Nat.le_add_right _ _)) (cC_1 _ _ _ _ _) rfl 1 (by decide) (hts (.fieldLink RX9 15 "SeatsRound$Tape" "length" "I") (List.mem_of_getElem? (i := 1) rfl)) (fun _ h9 => h9) rfl (tyX9_ok 1 (by decide)) rfl rfl (Nat.le_of_ble_eq_true rfl) (oC_1_1 _ _ _ _ _ _) h dX9_append_39 (fun σ2 H locs h hP hD hS => ?_)
        obtain ⟨v3, ev3⟩ : ∃ y : Int32, y = x3 + 1 := ⟨_, rfl⟩
        have h := nmS h ev3
        refine lv_iinc (v := v3) (lv' := [(3, .int v3), (0, .ref (ad 1)), (1, .int x1), (2, .int x2)]) hx hb dX9_append_42 hl (k := 3) rfl (by rw [ev3]; rfl) (by decide) rfl (fun ls hl => ?_)
        have hl := lv_sub hl [1, 2, 3, 0] (l' := [(0, .ref (ad 1)), (1, .int x1), (2, .int x2), (3, .int v3)]) rfl
        refine lv_goto (tgt := 2) hx hb dX9_append_45 (by decide) ?_
        exact ih σ2 x1 x2 v3 H locs ls h hP hD hS hl
  have w0 : ∀ (σ : S2) (x1 : Int32) (x2 : Int32) (H : Heap) (locs : List Loc) (ls : Array Slot), fX9_append_0 τ σ x1 x2 = some (r0, σ9) → va_P (dC, dI) vwCl (wG (cC cy ad τ) ad (182 + 6 * nb) σ) H → va_D A (wG (cC cy ad τ) ad (182 + 6 * nb) σ) → va_S A s.heap H locs → lv_has ls 4 [(0, .ref (ad 1)), (1, .int x1), (2, .int x2)] → W p l e (headSpec wsX9_append ({ frames := 1, cells := 0, slots := 0, locals := 23 })).room s m (#[.ref (ad 1), .int a1, .int a2]) below meth c H locs 0 0 (MQ below (va_Qv (fun (_ : Unit) => True) (fun (_ : Unit) t => wAt (dC, dI) A (wG (cC cy ad τ) ad (182 + 6 * nb) σ9) t) A) (#[.ref (ad 1), .int a1, .int a2]) s 0 0 A) (F0 m 0 ls []) := by
    intro σ x1 x2 H locs ls h hP hD hS hl
    unfold fX9_append_0 at h
    refine lv_iconst (v := 0) hx hb dX9_append_0 (by decide) ?_
    refine lv_istore_n (lv' := [(3, .int 0), (0, .ref (ad 1)), (1, .int x1), (2, .int x2)]) hx hb dX9_append_1 rfl hl (by decide) rfl (fun ls hl => ?_)
    have hl := lv_sub hl [1, 2, 3, 0] (l' := [(0, .ref (ad 1)), (1, .int x1), (2, .int x2), (3, .int 0)]) rfl
    exact w2 FU σ x1 x2 0 H locs ls h hP hD hS hl
  intro H locs ls h hP hD hS hl
  exact w0 σ a1 a2 H locs ls h hP hD hS (lv_sub hl [0, 1, 2] rfl)

set_option maxHeartbeats 4000000 in
set_option maxRecDepth 100000 in
theorem tX10_greatestShare (l : Launch) (dC : Nat → ClassId) (dI : Nat → Nat → Nat) (cy : Nat → ClassId) (ad : Nat → Nat) (τ nb : Nat) (hτ : τ < nb) (b1 : Nat) (hb1 : b1 < nb) (σ : S2)  (sz : Nat) (r0 : Int32) (σ9 : S2) (h : fX10_greatestShare τ b1 σ = some (r0, σ9)) : Met l yX10_greatestShare wsX10_greatestShare ({ frames := 4, cells := 0, slots := 0, locals := 90 }) (va_Pc [.ref (ad 32), .ref (ad (182 + 6 * b1))] (wPre (dC, dI) cy (wG (cC cy ad τ) ad (182 + 6 * nb) σ) sz)) (va_Qi (fun (r : Int32) (_ : Unit) => r = r0) (fun (_ : Unit) t => wAt (dC, dI) (va_A (wG (cC cy ad τ) ad (182 + 6 * nb) σ) sz) (wG (cC cy ad τ) ad (182 + 6 * nb) σ9) t) (va_A (wG (cC cy ad τ) ad (182 + 6 * nb) σ) sz)) 0 0 (va_A (wG (cC cy ad τ) ad (182 + 6 * nb) σ) sz) := by
  refine Met.ofW (cc := cX10_greatestShare) (maxL := 5) (ret := (some .int)) (by decide) rfl ?_
  intro p e s m args below meth c s₁ B hml hv
  obtain ⟨rfl, hsz, hP, hK, hD0, hN⟩ := hv
  have hx := B.exec
  have hb := B.bytes
  have hr := B.returns
  have hts := atoms_spec (ws := wsX10_greatestShare) B.pre
  have hown : s.vm.findClass RX10 = some m.cls := findClass_of_methodNamed B.named
  have hlocks := B.notSynchronized
  subst hsz
  have hD := hD0.self (sz := s.heap.size)
  generalize hAe : va_A (wG (cC cy ad τ) ad (182 + 6 * nb) σ) s.heap.size = A at hD ⊢
  have hA : ∀ q : Nat, s.heap.size ≤ q → A q := fun q h => by rw [← hAe]; exact Or.inr h
  have hS : va_S A s.heap s.heap [] := va_S.rf
  have hl := lv_entry ([.ref (ad 32), .ref (ad (182 + 6 * b1))]) (n := 5) (Nat.le_of_ble_eq_true rfl)
  rw [lg_entry_eq]
  generalize (lg_sl ([.ref (ad 32), .ref (ad (182 + 6 * b1))]) ++ List.replicate (5 - (lg_sl ([.ref (ad 32), .ref (ad (182 + 6 * b1))])).length) Slot.unset).toArray = ls at hl ⊢
  have hl : lv_has ls 5 [(0, .ref (ad 32)), (1, .ref (ad (182 + 6 * b1)))] := hl
  unfold fX10_greatestShare at h
  clear hAe hD0
  suffices HH : ∀ (H : Heap) (locs : List Loc) (ls : Array Slot), fX10_greatestShare_0 τ b1 σ = some (r0, σ9) → va_P (dC, dI) vwCl (wG (cC cy ad τ) ad (182 + 6 * nb) σ) H → va_D A (wG (cC cy ad τ) ad (182 + 6 * nb) σ) → va_S A s.heap H locs → lv_has ls 5 [(0, .ref (ad 32)), (1, .ref (ad (182 + 6 * b1)))] → W p l e (headSpec wsX10_greatestShare ({ frames := 4, cells := 0, slots := 0, locals := 90 })).room s m (#[.ref (ad 32), .ref (ad (182 + 6 * b1))]) below meth c H locs 0 0 (MQ below (va_Qi (fun (r : Int32) (_ : Unit) => r = r0) (fun (_ : Unit) t => wAt (dC, dI) A (wG (cC cy ad τ) ad (182 + 6 * nb) σ9) t) A) (#[.ref (ad 32), .ref (ad (182 + 6 * b1))]) s 0 0 A) (F0 m 0 ls []) from HH s.heap [] ls h hP hD hS hl
  have w79 : ∀ (k12 : S2 → Int32 → Int32 → Option (Int32 × S2)) (hk12 : ∀ (σ : S2) (x2 : Int32) (x3 : Int32) (H : Heap) (locs : List Loc) (ls : Array Slot), k12 σ x2 x3 = some (r0, σ9) → va_P (dC, dI) vwCl (wG (cC cy ad τ) ad (182 + 6 * nb) σ) H → va_D A (wG (cC cy ad τ) ad (182 + 6 * nb) σ) → va_S A s.heap H locs → lv_has ls 5 [(0, .ref (ad 32)), (1, .ref (ad (182 + 6 * b1))), (2, .int x2), (3, .int x3)] → W p l e (headSpec wsX10_greatestShare ({ frames := 4, cells := 0, slots := 0, locals := 90 })).room s m (#[.ref (ad 32), .ref (ad (182 + 6 * b1))]) below meth c H locs 0 0 (MQ below (va_Qi (fun (r : Int32) (_ : Unit) => r = r0) (fun (_ : Unit) t => wAt (dC, dI) A (wG (cC cy ad τ) ad (182 + 6 * nb) σ9) t) A) (#[.ref (ad 32), .ref (ad (182 + 6 * b1))]) s 0 0 A) (F0 m 12 ls [])) , ∀ (σ : S2) (x2 : Int32) (x3 : Int32) (H : Heap) (locs : List Loc) (ls : Array Slot), fX10_greatestShare_79 τ b1 k12 σ x2 x3 = some (r0, σ9) → va_P (dC, dI) vwCl (wG (cC cy ad τ) ad (182 + 6 * nb) σ) H → va_D A (wG (cC cy ad τ) ad (182 + 6 * nb) σ) → va_S A s.heap H locs → lv_has ls 5 [(0, .ref (ad 32)), (1, .ref (ad (182 + 6 * b1))), (2, .int x2), (3, .int x3)] → W p l e (headSpec wsX10_greatestShare ({ frames := 4, cells := 0, slots := 0, locals := 90 })).room s m (#[.ref (ad 32), .ref (ad (182 + 6 * b1))]) below meth c H locs 0 0 (MQ below (va_Qi (fun (r : Int32) (_ : Unit) => r = r0) (fun (_ : Unit) t => wAt (dC, dI) A (wG (cC cy ad τ) ad (182 + 6 * nb) σ9) t) A) (#[.ref (ad 32), .ref (ad (182 + 6 * b1))]) s 0 0 A) (F0 m 79 ls []) := by
    intro k12 hk12 σ x2 x3 H locs ls h hP hD hS hl
    unfold fX10_greatestShare_79 at h
    obtain ⟨v1, ev1⟩ : ∃ y : Int32, y = x3 + 1 := ⟨_, rfl⟩
    have h := nmS h ev1
    refine lv_iinc (v := v1) (lv' := [(3, .int v1), (0, .ref (ad 32)), (1, .ref (ad (182 + 6 * b1))), (2, .int x2)]) hx hb dX10_greatestShare_79 hl (k := 3) rfl (by rw [ev1]; rfl) (by decide) rfl (fun ls hl => ?_)
    have hl := lv_sub hl [1, 2, 3, 0] (l' := [(0, .ref (ad 32)), (1, .ref (ad (182 + 6 * b1))), (2, .int x2), (3, .int v1)]) rfl
    refine lv_goto (tgt := 12) hx hb dX10_greatestShare_82 (by decide) ?_
    exact hk12 σ x2 v1 H locs ls h hP hD hS hl
  have w12 : ∀ (n : Nat), ∀ (σ : S2) (x2 : Int32) (x3 : Int32) (H : Heap) (locs : List Loc) (ls : Array Slot), fX10_greatestShare_12 τ b1 n σ x2 x3 = some (r0, σ9) → va_P (dC, dI) vwCl (wG (cC cy ad τ) ad (182 + 6 * nb) σ) H → va_D A (wG (cC cy ad τ) ad (182 + 6 * nb) σ) → va_S A s.heap H locs → lv_has ls 5 [(0, .ref (ad 32)), (1, .ref (ad (182 + 6 * b1))), (2, .int x2), (3, .int x3)] → W p l e (headSpec wsX10_greatestShare ({ frames := 4, cells := 0, slots := 0, locals := 90 })).room s m (#[.ref (ad 32), .ref (ad (182 + 6 * b1))]) below meth c H locs 0 0 (MQ below (va_Qi (fun (r : Int32) (_ : Unit) => r = r0) (fun (_ : Unit) t => wAt (dC, dI) A (wG (cC cy ad τ) ad (182 + 6 * nb) σ9) t) A) (#[.ref (ad 32), .ref (ad (182 + 6 * b1))]) s 0 0 A) (F0 m 12 ls []) := by
    intro n
    induction n with
    | zero => intro σ x2 x3 H locs ls h; cases h
    | succ n ih =>
    intro σ x2 x3 H locs ls h hP hD hS hl
    unfold fX10_greatestShare_12 at h
    refine lv_iload_n hx hb dX10_greatestShare_12 rfl (lv_at hl 3 rfl) ?_
    refine lv_aload_n hx hb dX10_greatestShare_13 rfl (lv_at hl 0 rfl) ?_
    refine ux_get (D := (dC, dI)) (ci := 10) (v := .ref (ad 3)) (C := RX10) (T := TX10) (M := 5) (fs := (oTU ad (σ.1 32))) hx hb hts (fun _ h9 => List.mem_cons_of_mem _ (List.mem_append_left _ (List.mem_append_left _ (List.mem_append_right _ h9)))) hown hK hP 32 (Nat.lt_of_lt_of_le (Nat.le_of_ble_eq_true rfl : 32 < 182) (Nat.le_add_right _ _)) (cC_32 _ _ _ _ _) rfl 4 (by decide) (hts (.fieldLink RX10 25 "SeatsRound$Turnings" "nameList" "LSeatsRound$NameList;") (List.mem_of_getElem? (i := 2) rfl)) (fun _ h9 => h9) rfl dX10_greatestShare_14 ?_
    refine ux_get (D := (dC, dI)) (ci := 4) (v := .int (σ.1 3 3)) (C := RX4) (T := TX4) (M := 4) (fs := (oNL ad (σ.1 3))) hx hb hts (fun _ h9 => List.mem_cons_of_mem _ (List.mem_append_left _ (List.mem_append_right _ h9))) hown hK hP 3 (Nat.lt_of_lt_of_le (Nat.le_of_ble_eq_true rfl : 3 < 182) (Nat.le_add_right _ _)) (cC_3 _ _ _ _ _) rfl 3 (by decide) (hts (.fieldLink RX10 49 "SeatsRound$NameList" "count" "I") (List.mem_of_getElem? (i := 3) rfl)) (fun _ h9 => h9) rfl dX10_greatestShare_17 ?_
    refine lv_icmp_ge (tgt := 85) hx hb dX10_greatestShare_20 (by decide) (fun hcd => ?_) (fun hcd => ?_)
    · have h := cdP hcd h
      refine lv_iload_n hx hb dX10_greatestShare_85 rfl (lv_at hl 2 rfl) ?_
      exact ux_iret hx hb hr h hP hD hS hlocks dX10_greatestShare_86
    · have h := cdN hcd h
      refine lv_aload_n hx hb dX10_greatestShare_23 rfl (lv_at hl 1 rfl) ?_
      refine lv_aload_n hx hb dX10_greatestShare_24 rfl (lv_at hl 0 rfl) ?_
      refine ux_get (D := (dC, dI)) (ci := 10) (v := .ref (ad 3)) (C := RX10) (T := TX10) (M := 5) (fs := (oTU ad (σ.1 32))) hx hb hts (fun _ h9 => List.mem_cons_of_mem _ (List.mem_append_left _ (List.mem_append_left _ (List.mem_append_right _ h9)))) hown hK hP 32 (Nat.lt_of_lt_of_le (Nat.le_of_ble_eq_true rfl : 32 < 182) (Nat.le_add_right _ _)) (cC_32 _ _ _ _ _) rfl 4 (by decide) (hts (.fieldLink RX10 25 "SeatsRound$Turnings" "nameList" "LSeatsRound$NameList;") (List.mem_of_getElem? (i := 2) rfl)) (fun _ h9 => h9) rfl dX10_greatestShare_25 ?_
      refine lv_iload_n hx hb dX10_greatestShare_28 rfl (lv_at hl 3 rfl) ?_
      refine lv_aload_n hx hb dX10_greatestShare_29 rfl (lv_at hl 1 rfl) ?_
      refine ux_get (D := (dC, dI)) (ci := 8) (v := .int (σ.1 (182 + 6 * b1) 1)) (C := RX8) (T := TX8) (M := 13) (fs := (oTB ad (182 + 6 * b1) (σ.1 (182 + 6 * b1)))) hx hb hts (fun _ h9 => List.mem_cons_of_mem _ (List.mem_append_right _ h9)) hown hK hP (182 + 6 * b1) (by omega) (cC_t0 _ _ _ _ _ b1) rfl 1 (by decide) (hts (.fieldLink RX10 52 "SeatsRound$Table" "turn" "I") (List.mem_of_getElem? (i := 4) rfl)) (fun _ h9 => h9) rfl dX10_greatestShare_30 ?_
      obtain ⟨r2, hf3, h⟩ := biS h
      refine ux_calli (va_runV (As := [.int x3, .int (σ.1 (182 + 6 * b1) 1)]) (rest := [.ref (ad (182 + 6 * b1))]) ⟨hx, hb, hml, hown, hts⟩ (tX4_placeOf l dC dI cy ad τ nb hτ σ x3 (σ.1 (182 + 6 * b1) 1) H.size r2 hf3) (cwV 2 hts gX10_greatestShare_X4_placeOf rfl rfl rfl (by decide +kernel) ⟨Nat.le_of_ble_eq_true rfl, Nat.le_of_ble_eq_true rfl⟩) (wp_V hK hN hP hD (va_recv hK hP (ci := 4) (q0 := 3) rfl (wG_of (Nat.lt_of_lt_of_le (Nat.le_of_ble_eq_true rfl : 3 < 182) (Nat.le_add_right _ _)) (cC_3 _ _ _ _ _)))) rfl rfl hl.1 rfl (lv_room (Nat.le_of_ble_eq_true rfl)) dX10_greatestShare_33 ⟨Nat.le_of_ble_eq_true rfl, Nat.le_of_ble_eq_true rfl⟩) hD hS hA (fun H locs hP hD hS => ?_)
      obtain ⟨r4, hf5, h⟩ := biS h
      refine ux_calli (va_runV (As := [.int r2]) (rest := []) ⟨hx, hb, hml, hown, hts⟩ (tX8_firstFor l dC dI cy ad τ nb hτ b1 (by omega) σ r2 H.size r4 hf5) (cwV 1 hts gX10_greatestShare_X8_firstFor rfl rfl rfl (by decide +kernel) ⟨Nat.le_of_ble_eq_true rfl, Nat.le_of_ble_eq_true rfl⟩) (wp_V hK hN hP hD (va_recv hK hP (ci := 8) (q0 := (182 + 6 * b1)) rfl (wG_of (by omega) (cC_t0 _ _ _ _ _ b1)))) rfl rfl hl.1 rfl (lv_room (Nat.le_of_ble_eq_true rfl)) dX10_greatestShare_36 ⟨Nat.le_of_ble_eq_true rfl, Nat.le_of_ble_eq_true rfl⟩) hD hS hA (fun H locs hP hD hS => ?_)
      refine lv_istore (lv' := [(4, .int r4), (0, .ref (ad 32)), (1, .ref (ad (182 + 6 * b1))), (2, .int x2), (3, .int x3)]) hx hb dX10_greatestShare_39 hl (by decide) rfl (fun ls hl => ?_)
      have hl := lv_sub hl [1, 2, 3, 4, 0] (l' := [(0, .ref (ad 32)), (1, .ref (ad (182 + 6 * b1))), (2, .int x2), (3, .int x3), (4, .int r4)]) rfl
      refine lv_iload hx hb dX10_greatestShare_41 (lv_at hl 4 rfl) ?_
      refine lv_if_lt (tgt := 79) hx hb dX10_greatestShare_43 (by decide) (fun hcd => ?_) (fun hcd => ?_)
      · have h := cdP hcd h
        exact w79 _ ih σ x2 x3 H locs ls h hP hD hS (lv_sub hl [0, 1, 2, 3] rfl)
      · have h := cdN hcd h
        refine lv_iload hx hb dX10_greatestShare_46 (lv_at hl 4 rfl) ?_
        refine lv_bipush (v := 12) hx hb dX10_greatestShare_48 (by decide) ?_
        refine lv_icmp_lt (tgt := 56) hx hb dX10_greatestShare_50 (by decide) (fun hcd => ?_) (fun hcd => ?_)
        · have h := cdP hcd h
          refine lv_aload_n hx hb dX10_greatestShare_56 rfl (lv_at hl 0 rfl) ?_
          refine ux_get (D := (dC, dI)) (ci := 10) (v := .ref (ad 34)) (C := RX10) (T := TX10) (M := 5) (fs := (oTU ad (σ.1 32))) hx hb hts (fun _ h9 => List.mem_cons_of_mem _ (List.mem_append_left _ (List.mem_append_left _ (List.mem_append_right _ h9)))) hown hK hP 32 (Nat.lt_of_lt_of_le (Nat.le_of_ble_eq_true rfl : 32 < 182) (Nat.le_add_right _ _)) (cC_32 _ _ _ _ _) rfl 3 (by decide) (hts (.fieldLink RX10 22 "SeatsRound$Turnings" "shares" "[I") (List.mem_of_getElem? (i := 1) rfl)) (fun _ h9 => h9) rfl dX10_greatestShare_57 ?_
          refine lv_iload hx hb dX10_greatestShare_60 (lv_at hl 4 rfl) ?_
          refine lv_dup2_11 hx hb dX10_greatestShare_62 rfl rfl ?_
          refine ux_iald hx hb hK hP 34 0 (Nat.lt_of_lt_of_le (Nat.le_of_ble_eq_true rfl : 34 < 182) (Nat.le_add_right _ _)) (cC_34 _ _ _ _ _) rfl h dX10_greatestShare_63 (fun v6 h => ?_)
          refine lv_iconst (v := 1) hx hb dX10_greatestShare_64 (by decide) ?_
          refine lv_iadd hx hb dX10_greatestShare_65 ?_
          refine ux_iast hx hb hK hP hD hS 34 0 (Nat.lt_of_lt_of_le (Nat.le_of_ble_eq_true rfl : 34 < 182) (Nat.le_add_right _ _)) (fun _ => (cC_34 _ _ _ _ _)) rfl h dX10_greatestShare_66 (fun σ7 H locs h hP hD hS => ?_)
          refine lv_iload_n hx hb dX10_greatestShare_67 rfl (lv_at hl 2 rfl) ?_
          refine lv_aload_n hx hb dX10_greatestShare_68 rfl (lv_at hl 0 rfl) ?_
          refine ux_get (D := (dC, dI)) (ci := 10) (v := .ref (ad 34)) (C := RX10) (T := TX10) (M := 5) (fs := (oTU ad (σ7.1 32))) hx hb hts (fun _ h9 => List.mem_cons_of_mem _ (List.mem_append_left _ (List.mem_append_left _ (List.mem_append_right _ h9)))) hown hK hP 32 (Nat.lt_of_lt_of_le (Nat.le_of_ble_eq_true rfl : 32 < 182) (Nat.le_add_right _ _)) (cC_32 _ _ _ _ _) rfl 3 (by decide) (hts (.fieldLink RX10 22 "SeatsRound$Turnings" "shares" "[I") (List.mem_of_getElem? (i := 1) rfl)) (fun _ h9 => h9) rfl dX10_greatestShare_69 ?_
          refine lv_iload hx hb dX10_greatestShare_72 (lv_at hl 4 rfl) ?_
          refine ux_iald hx hb hK hP 34 0 (Nat.lt_of_lt_of_le (Nat.le_of_ble_eq_true rfl : 34 < 182) (Nat.le_add_right _ _)) (cC_34 _ _ _ _ _) rfl h dX10_greatestShare_74 (fun v8 h => ?_)
          refine va_mmax hx hb (hml.trans hl.1.symm) hown (hts (.methodLink RX10 63 Lib.Math.max.name) (List.mem_of_getElem? (i := 5) rfl)) (hts (.static Lib.Math.max.name) (List.mem_of_getElem? (i := 6) rfl)) (hts (.initialized "java/lang/Math") (List.mem_of_getElem? (i := 7) rfl)) (hts (.code Lib.Math.max.name Lib.Math.max.code 2 (some .int)) (List.mem_of_getElem? (i := 8) rfl)) (Nat.le_of_ble_eq_true rfl) (Nat.le_of_ble_eq_true rfl) (Nat.le_of_ble_eq_true rfl) (Nat.le_of_ble_eq_true rfl) dX10_greatestShare_75 ?_
          refine lv_topi (fun v9 ev9 => ?_)
          have h := nmS h ev9
          refine lv_istore_n (lv' := [(2, .int v9), (0, .ref (ad 32)), (1, .ref (ad (182 + 6 * b1))), (3, .int x3), (4, .int r4)]) hx hb dX10_greatestShare_78 rfl hl (by decide) rfl (fun ls hl => ?_)
          have hl := lv_sub hl [1, 2, 0, 3, 4] (l' := [(0, .ref (ad 32)), (1, .ref (ad (182 + 6 * b1))), (2, .int v9), (3, .int x3), (4, .int r4)]) rfl
          exact w79 _ ih σ7 v9 x3 H locs ls h hP hD hS (lv_sub hl [0, 1, 2, 3] rfl)
        · have h := cdN hcd h
          refine lv_goto (tgt := 79) hx hb dX10_greatestShare_53 (by decide) ?_
          exact w79 _ ih σ x2 x3 H locs ls h hP hD hS (lv_sub hl [0, 1, 2, 3] rfl)
  have w0 : ∀ (σ : S2)  (H : Heap) (locs : List Loc) (ls : Array Slot), fX10_greatestShare_0 τ b1 σ = some (r0, σ9) → va_P (dC, dI) vwCl (wG (cC cy ad τ) ad (182 + 6 * nb) σ) H → va_D A (wG (cC cy ad τ) ad (182 + 6 * nb) σ) → va_S A s.heap H locs → lv_has ls 5 [(0, .ref (ad 32)), (1, .ref (ad (182 + 6 * b1)))] → W p l e (headSpec wsX10_greatestShare ({ frames := 4, cells := 0, slots := 0, locals := 90 })).room s m (#[.ref (ad 32), .ref (ad (182 + 6 * b1))]) below meth c H locs 0 0 (MQ below (va_Qi (fun (r : Int32) (_ : Unit) => r = r0) (fun (_ : Unit) t => wAt (dC, dI) A (wG (cC cy ad τ) ad (182 + 6 * nb) σ9) t) A) (#[.ref (ad 32), .ref (ad (182 + 6 * b1))]) s 0 0 A) (F0 m 0 ls []) := by
    intro σ H locs ls h hP hD hS hl
    unfold fX10_greatestShare_0 at h
    refine lv_aload_n hx hb dX10_greatestShare_0 rfl (lv_at hl 0 rfl) ?_
    refine ux_get (D := (dC, dI)) (ci := 10) (v := .ref (ad 34)) (C := RX10) (T := TX10) (M := 5) (fs := (oTU ad (σ.1 32))) hx hb hts (fun _ h9 => List.mem_cons_of_mem _ (List.mem_append_left _ (List.mem_append_left _ (List.mem_append_right _ h9)))) hown hK hP 32 (Nat.lt_of_lt_of_le (Nat.le_of_ble_eq_true rfl : 32 < 182) (Nat.le_add_right _ _)) (cC_32 _ _ _ _ _) rfl 3 (by decide) (hts (.fieldLink RX10 22 "SeatsRound$Turnings" "shares" "[I") (List.mem_of_getElem? (i := 1) rfl)) (fun _ h9 => h9) rfl dX10_greatestShare_1 ?_
    refine lv_iconst (v := 0) hx hb dX10_greatestShare_4 (by decide) ?_
    obtain ⟨r10, σ11, hf12, h⟩ := bsS h
    refine ux_callv (va_runS (As := [.ref (ad 34), .int 0]) (rest := []) ⟨hx, hb, hml, hown, hts⟩ (tJ7_fill_53178 l dC dI cy ad τ nb hτ 34 12 (Nat.lt_of_lt_of_le (Nat.le_of_ble_eq_true rfl : 34 < 182) (Nat.le_add_right _ _)) (fun _ _ => (cC_34 _ _ _ _ _)) σ 0 H.size r10 σ11 hf12) (va_cwS 2 hts gX10_greatestShare_J7_fill_53178 rfl rfl rfl (by decide +kernel) ⟨Nat.le_of_ble_eq_true rfl, Nat.le_of_ble_eq_true rfl⟩) (wp_S hK hN hP hD) rfl rfl hl.1 rfl (lv_room (Nat.le_of_ble_eq_true rfl)) dX10_greatestShare_5 ⟨Nat.le_of_ble_eq_true rfl, Nat.le_of_ble_eq_true rfl⟩) hD hS hA (fun H locs hP hD hS => ?_)
    refine lv_iconst (v := 0) hx hb dX10_greatestShare_8 (by decide) ?_
    refine lv_istore_n (lv' := [(2, .int 0), (0, .ref (ad 32)), (1, .ref (ad (182 + 6 * b1)))]) hx hb dX10_greatestShare_9 rfl hl (by decide) rfl (fun ls hl => ?_)
    have hl := lv_sub hl [1, 2, 0] (l' := [(0, .ref (ad 32)), (1, .ref (ad (182 + 6 * b1))), (2, .int 0)]) rfl
    refine lv_iconst (v := 0) hx hb dX10_greatestShare_10 (by decide) ?_
    refine lv_istore_n (lv' := [(3, .int 0), (0, .ref (ad 32)), (1, .ref (ad (182 + 6 * b1))), (2, .int 0)]) hx hb dX10_greatestShare_11 rfl hl (by decide) rfl (fun ls hl => ?_)
    have hl := lv_sub hl [1, 2, 3, 0] (l' := [(0, .ref (ad 32)), (1, .ref (ad (182 + 6 * b1))), (2, .int 0), (3, .int 0)]) rfl
    exact w12 FU σ11 0 0 H locs ls h hP hD hS hl
  intro H locs ls h hP hD hS hl
  exact w0 σ H locs ls h hP hD hS (lv_sub hl [0, 1] rfl)

set_option maxHeartbeats 4000000 in
set_option maxRecDepth 100000 in
theorem tX10_leastHarm (l : Launch) (dC : Nat → ClassId) (dI : Nat → Nat → Nat) (cy : Nat → ClassId) (ad : Nat → Nat) (τ nb : Nat) (hτ : τ < nb) (b1 : Nat) (hb1 : b1 < nb) (σ : S2)  (sz : Nat) (r0 : Int32) (σ9 : S2) (h : fX10_leastHarm τ b1 σ = some (r0, σ9)) : Met l yX10_leastHarm wsX10_leastHarm ({ frames := 5, cells := 0, slots := 0, locals := 114 }) (va_Pc [.ref (ad 32), .ref (ad (182 + 6 * b1)), .ref (ad 182)] (wPre (dC, dI) cy (wG (cC cy ad τ) ad (182 + 6 * nb) σ) sz)) (va_Qi (fun (r : Int32) (_ : Unit) => r = r0) (fun (_ : Unit) t => wAt (dC, dI) (va_A (wG (cC cy ad τ) ad (182 + 6 * nb) σ) sz) (wG (cC cy ad τ) ad (182 + 6 * nb) σ9) t) (va_A (wG (cC cy ad τ) ad (182 + 6 * nb) σ) sz)) 0 0 (va_A (wG (cC cy ad τ) ad (182 + 6 * nb) σ) sz) := by
  refine Met.ofW (cc := cX10_leastHarm) (maxL := 6) (ret := (some .int)) (by decide) rfl ?_
  intro p e s m args below meth c s₁ B hml hv
  obtain ⟨rfl, hsz, hP, hK, hD0, hN⟩ := hv
  have hx := B.exec
  have hb := B.bytes
  have hr := B.returns
  have hts := atoms_spec (ws := wsX10_leastHarm) B.pre
  have hown : s.vm.findClass RX10 = some m.cls := findClass_of_methodNamed B.named
  have hlocks := B.notSynchronized
  subst hsz
  have hD := hD0.self (sz := s.heap.size)
  generalize hAe : va_A (wG (cC cy ad τ) ad (182 + 6 * nb) σ) s.heap.size = A at hD ⊢
  have hA : ∀ q : Nat, s.heap.size ≤ q → A q := fun q h => by rw [← hAe]; exact Or.inr h
  have hS : va_S A s.heap s.heap [] := va_S.rf
  have hl := lv_entry ([.ref (ad 32), .ref (ad (182 + 6 * b1)), .ref (ad 182)]) (n := 6) (Nat.le_of_ble_eq_true rfl)
  rw [lg_entry_eq]
  generalize (lg_sl ([.ref (ad 32), .ref (ad (182 + 6 * b1)), .ref (ad 182)]) ++ List.replicate (6 - (lg_sl ([.ref (ad 32), .ref (ad (182 + 6 * b1)), .ref (ad 182)])).length) Slot.unset).toArray = ls at hl ⊢
  have hl : lv_has ls 6 [(0, .ref (ad 32)), (1, .ref (ad (182 + 6 * b1))), (2, .ref (ad 182))] := hl
  unfold fX10_leastHarm at h
  clear hAe hD0
  suffices HH : ∀ (H : Heap) (locs : List Loc) (ls : Array Slot), fX10_leastHarm_0 τ b1 σ = some (r0, σ9) → va_P (dC, dI) vwCl (wG (cC cy ad τ) ad (182 + 6 * nb) σ) H → va_D A (wG (cC cy ad τ) ad (182 + 6 * nb) σ) → va_S A s.heap H locs → lv_has ls 6 [(0, .ref (ad 32)), (1, .ref (ad (182 + 6 * b1))), (2, .ref (ad 182))] → W p l e (headSpec wsX10_leastHarm ({ frames := 5, cells := 0, slots := 0, locals := 114 })).room s m (#[.ref (ad 32), .ref (ad (182 + 6 * b1)), .ref (ad 182)]) below meth c H locs 0 0 (MQ below (va_Qi (fun (r : Int32) (_ : Unit) => r = r0) (fun (_ : Unit) t => wAt (dC, dI) A (wG (cC cy ad τ) ad (182 + 6 * nb) σ9) t) A) (#[.ref (ad 32), .ref (ad (182 + 6 * b1)), .ref (ad 182)]) s 0 0 A) (F0 m 0 ls []) from HH s.heap [] ls h hP hD hS hl
  have w60 : ∀ (k10 : S2 → Int32 → Int32 → Option (Int32 × S2)) (hk10 : ∀ (σ : S2) (x3 : Int32) (x4 : Int32) (H : Heap) (locs : List Loc) (ls : Array Slot), k10 σ x3 x4 = some (r0, σ9) → va_P (dC, dI) vwCl (wG (cC cy ad τ) ad (182 + 6 * nb) σ) H → va_D A (wG (cC cy ad τ) ad (182 + 6 * nb) σ) → va_S A s.heap H locs → lv_has ls 6 [(0, .ref (ad 32)), (2, .ref (ad 182)), (3, .int x3), (4, .int x4)] → W p l e (headSpec wsX10_leastHarm ({ frames := 5, cells := 0, slots := 0, locals := 114 })).room s m (#[.ref (ad 32), .ref (ad (182 + 6 * b1)), .ref (ad 182)]) below meth c H locs 0 0 (MQ below (va_Qi (fun (r : Int32) (_ : Unit) => r = r0) (fun (_ : Unit) t => wAt (dC, dI) A (wG (cC cy ad τ) ad (182 + 6 * nb) σ9) t) A) (#[.ref (ad 32), .ref (ad (182 + 6 * b1)), .ref (ad 182)]) s 0 0 A) (F0 m 10 ls [])) , ∀ (σ : S2) (x3 : Int32) (x4 : Int32) (H : Heap) (locs : List Loc) (ls : Array Slot), fX10_leastHarm_60 τ b1 k10 σ x3 x4 = some (r0, σ9) → va_P (dC, dI) vwCl (wG (cC cy ad τ) ad (182 + 6 * nb) σ) H → va_D A (wG (cC cy ad τ) ad (182 + 6 * nb) σ) → va_S A s.heap H locs → lv_has ls 6 [(0, .ref (ad 32)), (2, .ref (ad 182)), (3, .int x3), (4, .int x4)] → W p l e (headSpec wsX10_leastHarm ({ frames := 5, cells := 0, slots := 0, locals := 114 })).room s m (#[.ref (ad 32), .ref (ad (182 + 6 * b1)), .ref (ad 182)]) below meth c H locs 0 0 (MQ below (va_Qi (fun (r : Int32) (_ : Unit) => r = r0) (fun (_ : Unit) t => wAt (dC, dI) A (wG (cC cy ad τ) ad (182 + 6 * nb) σ9) t) A) (#[.ref (ad 32), .ref (ad (182 + 6 * b1)), .ref (ad 182)]) s 0 0 A) (F0 m 60 ls []) := by
    intro k10 hk10 σ x3 x4 H locs ls h hP hD hS hl
    unfold fX10_leastHarm_60 at h
    obtain ⟨v1, ev1⟩ : ∃ y : Int32, y = x4 + 1 := ⟨_, rfl⟩
    have h := nmS h ev1
    refine lv_iinc (v := v1) (lv' := [(4, .int v1), (0, .ref (ad 32)), (2, .ref (ad 182)), (3, .int x3)]) hx hb dX10_leastHarm_60 hl (k := 3) rfl (by rw [ev1]; rfl) (by decide) rfl (fun ls hl => ?_)
    have hl := lv_sub hl [1, 2, 3, 0] (l' := [(0, .ref (ad 32)), (2, .ref (ad 182)), (3, .int x3), (4, .int v1)]) rfl
    refine lv_goto (tgt := 10) hx hb dX10_leastHarm_63 (by decide) ?_
    exact hk10 σ x3 v1 H locs ls h hP hD hS hl
  have w51 : ∀ (k10 : S2 → Int32 → Int32 → Option (Int32 × S2)) (hk10 : ∀ (σ : S2) (x3 : Int32) (x4 : Int32) (H : Heap) (locs : List Loc) (ls : Array Slot), k10 σ x3 x4 = some (r0, σ9) → va_P (dC, dI) vwCl (wG (cC cy ad τ) ad (182 + 6 * nb) σ) H → va_D A (wG (cC cy ad τ) ad (182 + 6 * nb) σ) → va_S A s.heap H locs → lv_has ls 6 [(0, .ref (ad 32)), (2, .ref (ad 182)), (3, .int x3), (4, .int x4)] → W p l e (headSpec wsX10_leastHarm ({ frames := 5, cells := 0, slots := 0, locals := 114 })).room s m (#[.ref (ad 32), .ref (ad (182 + 6 * b1)), .ref (ad 182)]) below meth c H locs 0 0 (MQ below (va_Qi (fun (r : Int32) (_ : Unit) => r = r0) (fun (_ : Unit) t => wAt (dC, dI) A (wG (cC cy ad τ) ad (182 + 6 * nb) σ9) t) A) (#[.ref (ad 32), .ref (ad (182 + 6 * b1)), .ref (ad 182)]) s 0 0 A) (F0 m 10 ls [])) , ∀ (σ : S2) (x4 : Int32) (x5 : Int32) (H : Heap) (locs : List Loc) (ls : Array Slot), fX10_leastHarm_51 τ b1 k10 σ x4 x5 = some (r0, σ9) → va_P (dC, dI) vwCl (wG (cC cy ad τ) ad (182 + 6 * nb) σ) H → va_D A (wG (cC cy ad τ) ad (182 + 6 * nb) σ) → va_S A s.heap H locs → lv_has ls 6 [(0, .ref (ad 32)), (2, .ref (ad 182)), (4, .int x4), (5, .int x5)] → W p l e (headSpec wsX10_leastHarm ({ frames := 5, cells := 0, slots := 0, locals := 114 })).room s m (#[.ref (ad 32), .ref (ad (182 + 6 * b1)), .ref (ad 182)]) below meth c H locs 0 0 (MQ below (va_Qi (fun (r : Int32) (_ : Unit) => r = r0) (fun (_ : Unit) t => wAt (dC, dI) A (wG (cC cy ad τ) ad (182 + 6 * nb) σ9) t) A) (#[.ref (ad 32), .ref (ad (182 + 6 * b1)), .ref (ad 182)]) s 0 0 A) (F0 m 51 ls []) := by
    intro k10 hk10 σ x4 x5 H locs ls h hP hD hS hl
    unfold fX10_leastHarm_51 at h
    refine lv_iload hx hb dX10_leastHarm_51 (lv_at hl 2 rfl) ?_
    refine lv_istore_n (lv' := [(3, .int x4), (0, .ref (ad 32)), (2, .ref (ad 182)), (4, .int x4), (5, .int x5)]) hx hb dX10_leastHarm_53 rfl hl (by decide) rfl (fun ls hl => ?_)
    have hl := lv_sub hl [1, 2, 0, 3, 4] (l' := [(0, .ref (ad 32)), (2, .ref (ad 182)), (3, .int x4), (4, .int x4), (5, .int x5)]) rfl
    refine lv_aload_n hx hb dX10_leastHarm_54 rfl (lv_at hl 0 rfl) ?_
    refine lv_iload hx hb dX10_leastHarm_55 (lv_at hl 4 rfl) ?_
    refine ux_put (D := (dC, dI)) (ci := 10) (C := RX10) (T := TX10) (M := 5) (fs := (oTU ad (σ.1 32))) hx hb hts (fun _ h9 => List.mem_cons_of_mem _ (List.mem_append_left _ (List.mem_append_left _ (List.mem_append_right _ h9)))) tyX10 tyX10_ok nmX10 hown hK hP hD hS 32 (Nat.lt_of_lt_of_le (Nat.le_of_ble_eq_true rfl : 32 < 182) (Nat.le_add_right _ _)) (cC_32 _ _ _ _ _) rfl 2 (by decide) (hts (.fieldLink RX10 19 "SeatsRound$Turnings" "greatest" "I") (List.mem_of_getElem? (i := 3) rfl)) (fun _ h9 => h9) rfl (tyX10_ok 2 (by decide)) rfl rfl (Nat.le_of_ble_eq_true rfl) (oC_32_2 _ _ _ _ _ _) h dX10_leastHarm_57 (fun σ2 H locs h hP hD hS => ?_)
    exact w60 _ hk10 σ2 x4 x4 H locs ls h hP hD hS (lv_sub hl [0, 1, 2, 3] rfl)
  have w10 : ∀ (n : Nat), ∀ (σ : S2) (x3 : Int32) (x4 : Int32) (H : Heap) (locs : List Loc) (ls : Array Slot), fX10_leastHarm_10 τ b1 n σ x3 x4 = some (r0, σ9) → va_P (dC, dI) vwCl (wG (cC cy ad τ) ad (182 + 6 * nb) σ) H → va_D A (wG (cC cy ad τ) ad (182 + 6 * nb) σ) → va_S A s.heap H locs → lv_has ls 6 [(0, .ref (ad 32)), (2, .ref (ad 182)), (3, .int x3), (4, .int x4)] → W p l e (headSpec wsX10_leastHarm ({ frames := 5, cells := 0, slots := 0, locals := 114 })).room s m (#[.ref (ad 32), .ref (ad (182 + 6 * b1)), .ref (ad 182)]) below meth c H locs 0 0 (MQ below (va_Qi (fun (r : Int32) (_ : Unit) => r = r0) (fun (_ : Unit) t => wAt (dC, dI) A (wG (cC cy ad τ) ad (182 + 6 * nb) σ9) t) A) (#[.ref (ad 32), .ref (ad (182 + 6 * b1)), .ref (ad 182)]) s 0 0 A) (F0 m 10 ls []) := by
    intro n
    induction n with
    | zero => intro σ x3 x4 H locs ls h; cases h
    | succ n ih =>
    intro σ x3 x4 H locs ls h hP hD hS hl
    unfold fX10_leastHarm_10 at h
    refine lv_iload hx hb dX10_leastHarm_10 (lv_at hl 3 rfl) ?_
    refine lv_aload_n hx hb dX10_leastHarm_12 rfl (lv_at hl 0 rfl) ?_
    refine ux_get (D := (dC, dI)) (ci := 10) (v := .int (σ.1 32 1)) (C := RX10) (T := TX10) (M := 5) (fs := (oTU ad (σ.1 32))) hx hb hts (fun _ h9 => List.mem_cons_of_mem _ (List.mem_append_left _ (List.mem_append_left _ (List.mem_append_right _ h9)))) hown hK hP 32 (Nat.lt_of_lt_of_le (Nat.le_of_ble_eq_true rfl : 32 < 182) (Nat.le_add_right _ _)) (cC_32 _ _ _ _ _) rfl 1 (by decide) (hts (.fieldLink RX10 15 "SeatsRound$Turnings" "count" "I") (List.mem_of_getElem? (i := 1) rfl)) (fun _ h9 => h9) rfl dX10_leastHarm_13 ?_
    refine lv_icmp_ge (tgt := 66) hx hb dX10_leastHarm_16 (by decide) (fun hcd => ?_) (fun hcd => ?_)
    · have h := cdP hcd h
      refine lv_aload_n hx hb dX10_leastHarm_66 rfl (lv_at hl 0 rfl) ?_
      refine lv_iconst (v := 0) hx hb dX10_leastHarm_67 (by decide) ?_
      refine ux_put (D := (dC, dI)) (ci := 10) (C := RX10) (T := TX10) (M := 5) (fs := (oTU ad (σ.1 32))) hx hb hts (fun _ h9 => List.mem_cons_of_mem _ (List.mem_append_left _ (List.mem_append_left _ (List.mem_append_right _ h9)))) tyX10 tyX10_ok nmX10 hown hK hP hD hS 32 (Nat.lt_of_lt_of_le (Nat.le_of_ble_eq_true rfl : 32 < 182) (Nat.le_add_right _ _)) (cC_32 _ _ _ _ _) rfl 1 (by decide) (hts (.fieldLink RX10 15 "SeatsRound$Turnings" "count" "I") (List.mem_of_getElem? (i := 1) rfl)) (fun _ h9 => h9) rfl (tyX10_ok 1 (by decide)) rfl rfl (Nat.le_of_ble_eq_true rfl) (oC_32_1 _ _ _ _ _ _) h dX10_leastHarm_68 (fun σ3 H locs h hP hD hS => ?_)
      refine lv_iload_n hx hb dX10_leastHarm_71 rfl (lv_at hl 2 rfl) ?_
      exact ux_iret hx hb hr h hP hD hS hlocks dX10_leastHarm_72
    · have h := cdN hcd h
      refine lv_aload_n hx hb dX10_leastHarm_19 rfl (lv_at hl 1 rfl) ?_
      refine lv_aload_n hx hb dX10_leastHarm_20 rfl (lv_at hl 0 rfl) ?_
      refine ux_get (D := (dC, dI)) (ci := 10) (v := .ref (ad 33)) (C := RX10) (T := TX10) (M := 5) (fs := (oTU ad (σ.1 32))) hx hb hts (fun _ h9 => List.mem_cons_of_mem _ (List.mem_append_left _ (List.mem_append_left _ (List.mem_append_right _ h9)))) hown hK hP 32 (Nat.lt_of_lt_of_le (Nat.le_of_ble_eq_true rfl : 32 < 182) (Nat.le_add_right _ _)) (cC_32 _ _ _ _ _) rfl 0 (by decide) (hts (.fieldLink RX10 9 "SeatsRound$Turnings" "told" "[I") (List.mem_of_getElem? (i := 2) rfl)) (fun _ h9 => h9) rfl dX10_leastHarm_21 ?_
      refine lv_iload hx hb dX10_leastHarm_24 (lv_at hl 3 rfl) ?_
      refine ux_iald hx hb hK hP 33 0 (Nat.lt_of_lt_of_le (Nat.le_of_ble_eq_true rfl : 33 < 182) (Nat.le_add_right _ _)) (cC_33 _ _ _ _ _) rfl h dX10_leastHarm_26 (fun v4 h => ?_)
      obtain ⟨r5, σ6, hf7, h⟩ := bsS h
      refine ux_callv (va_runV (As := [.int v4]) (rest := []) ⟨hx, hb, hml, hown, hts⟩ (tX8_seatAll l dC dI cy ad τ nb hτ 0 (by omega) σ v4 H.size r5 σ6 hf7) (cwV 1 hts gX10_leastHarm_X8_seatAll rfl rfl rfl (by decide +kernel) ⟨Nat.le_of_ble_eq_true rfl, Nat.le_of_ble_eq_true rfl⟩) (wp_V hK hN hP hD (va_recv hK hP (ci := 8) (q0 := 182) rfl (wG_of (by omega) (cC_t0 _ _ _ _ _ 0)))) rfl rfl hl.1 rfl (lv_room (Nat.le_of_ble_eq_true rfl)) dX10_leastHarm_27 ⟨Nat.le_of_ble_eq_true rfl, Nat.le_of_ble_eq_true rfl⟩) hD hS hA (fun H locs hP hD hS => ?_)
      refine lv_aload_n hx hb dX10_leastHarm_30 rfl (lv_at hl 0 rfl) ?_
      refine lv_aload_n hx hb dX10_leastHarm_31 rfl (lv_at hl 1 rfl) ?_
      obtain ⟨r8, σ9, hf10, h⟩ := bsS h
      refine ux_calli (va_runV (As := [.ref (ad 182)]) (rest := []) ⟨hx, hb, hml, hown, hts⟩ (tX10_greatestShare l dC dI cy ad τ nb hτ 0 (by omega) σ6 H.size r8 σ9 hf10) (cwV 1 hts gX10_leastHarm_X10_greatestShare rfl rfl rfl (by decide +kernel) ⟨Nat.le_of_ble_eq_true rfl, Nat.le_of_ble_eq_true rfl⟩) (wp_V hK hN hP hD (va_recv hK hP (ci := 10) (q0 := 32) rfl (wG_of (Nat.lt_of_lt_of_le (Nat.le_of_ble_eq_true rfl : 32 < 182) (Nat.le_add_right _ _)) (cC_32 _ _ _ _ _)))) rfl rfl hl.1 rfl (lv_room (Nat.le_of_ble_eq_true rfl)) dX10_leastHarm_32 ⟨Nat.le_of_ble_eq_true rfl, Nat.le_of_ble_eq_true rfl⟩) hD hS hA (fun H locs hP hD hS => ?_)
      refine lv_istore (lv' := [(5, .int r8), (0, .ref (ad 32)), (2, .ref (ad 182)), (3, .int x3), (4, .int x4)]) hx hb dX10_leastHarm_35 hl (by decide) rfl (fun ls hl => ?_)
      have hl := lv_sub hl [1, 2, 3, 4, 0] (l' := [(0, .ref (ad 32)), (2, .ref (ad 182)), (3, .int x3), (4, .int x4), (5, .int r8)]) rfl
      refine lv_iload_n hx hb dX10_leastHarm_37 rfl (lv_at hl 2 rfl) ?_
      refine lv_iconst (v := (-1)) hx hb dX10_leastHarm_38 (by decide) ?_
      refine lv_icmp_eq (tgt := 51) hx hb dX10_leastHarm_39 (by decide) (fun hcd => ?_) (fun hcd => ?_)
      · have h := cdP hcd h
        exact w51 _ ih σ9 x4 r8 H locs ls h hP hD hS (lv_sub hl [0, 1, 3, 4] rfl)
      · have h := cdN hcd h
        refine lv_iload hx hb dX10_leastHarm_42 (lv_at hl 4 rfl) ?_
        refine lv_aload_n hx hb dX10_leastHarm_44 rfl (lv_at hl 0 rfl) ?_
        refine ux_get (D := (dC, dI)) (ci := 10) (v := .int (σ9.1 32 2)) (C := RX10) (T := TX10) (M := 5) (fs := (oTU ad (σ9.1 32))) hx hb hts (fun _ h9 => List.mem_cons_of_mem _ (List.mem_append_left _ (List.mem_append_left _ (List.mem_append_right _ h9)))) hown hK hP 32 (Nat.lt_of_lt_of_le (Nat.le_of_ble_eq_true rfl : 32 < 182) (Nat.le_add_right _ _)) (cC_32 _ _ _ _ _) rfl 2 (by decide) (hts (.fieldLink RX10 19 "SeatsRound$Turnings" "greatest" "I") (List.mem_of_getElem? (i := 3) rfl)) (fun _ h9 => h9) rfl dX10_leastHarm_45 ?_
        refine lv_icmp_ge (tgt := 60) hx hb dX10_leastHarm_48 (by decide) (fun hcd => ?_) (fun hcd => ?_)
        · have h := cdP hcd h
          exact w60 _ ih σ9 x3 x4 H locs ls h hP hD hS (lv_sub hl [0, 1, 2, 3] rfl)
        · have h := cdN hcd h
          exact w51 _ ih σ9 x4 r8 H locs ls h hP hD hS (lv_sub hl [0, 1, 3, 4] rfl)
  have w0 : ∀ (σ : S2)  (H : Heap) (locs : List Loc) (ls : Array Slot), fX10_leastHarm_0 τ b1 σ = some (r0, σ9) → va_P (dC, dI) vwCl (wG (cC cy ad τ) ad (182 + 6 * nb) σ) H → va_D A (wG (cC cy ad τ) ad (182 + 6 * nb) σ) → va_S A s.heap H locs → lv_has ls 6 [(0, .ref (ad 32)), (1, .ref (ad (182 + 6 * b1))), (2, .ref (ad 182))] → W p l e (headSpec wsX10_leastHarm ({ frames := 5, cells := 0, slots := 0, locals := 114 })).room s m (#[.ref (ad 32), .ref (ad (182 + 6 * b1)), .ref (ad 182)]) below meth c H locs 0 0 (MQ below (va_Qi (fun (r : Int32) (_ : Unit) => r = r0) (fun (_ : Unit) t => wAt (dC, dI) A (wG (cC cy ad τ) ad (182 + 6 * nb) σ9) t) A) (#[.ref (ad 32), .ref (ad (182 + 6 * b1)), .ref (ad 182)]) s 0 0 A) (F0 m 0 ls []) := by
    intro σ H locs ls h hP hD hS hl
    unfold fX10_leastHarm_0 at h
    refine lv_iconst (v := (-1)) hx hb dX10_leastHarm_0 (by decide) ?_
    refine lv_istore_n (lv' := [(3, .int (-1)), (0, .ref (ad 32)), (1, .ref (ad (182 + 6 * b1))), (2, .ref (ad 182))]) hx hb dX10_leastHarm_1 rfl hl (by decide) rfl (fun ls hl => ?_)
    have hl := lv_sub hl [1, 2, 3, 0] (l' := [(0, .ref (ad 32)), (1, .ref (ad (182 + 6 * b1))), (2, .ref (ad 182)), (3, .int (-1))]) rfl
    refine lv_aload_n hx hb dX10_leastHarm_2 rfl (lv_at hl 2 rfl) ?_
    refine lv_aload_n hx hb dX10_leastHarm_3 rfl (lv_at hl 1 rfl) ?_
    obtain ⟨r11, σ12, hf13, h⟩ := bsS h
    refine ux_callv (va_runV (As := [.ref (ad (182 + 6 * b1))]) (rest := []) ⟨hx, hb, hml, hown, hts⟩ (tX8_takeAll l dC dI cy ad τ nb hτ 0 (by omega) b1 (by omega) σ H.size r11 σ12 hf13) (cwV 1 hts gX10_leastHarm_X8_takeAll rfl rfl rfl (by decide +kernel) ⟨Nat.le_of_ble_eq_true rfl, Nat.le_of_ble_eq_true rfl⟩) (wp_V hK hN hP hD (va_recv hK hP (ci := 8) (q0 := 182) rfl (wG_of (by omega) (cC_t0 _ _ _ _ _ 0)))) rfl rfl hl.1 rfl (lv_room (Nat.le_of_ble_eq_true rfl)) dX10_leastHarm_4 ⟨Nat.le_of_ble_eq_true rfl, Nat.le_of_ble_eq_true rfl⟩) hD hS hA (fun H locs hP hD hS => ?_)
    refine lv_iconst (v := 0) hx hb dX10_leastHarm_7 (by decide) ?_
    refine lv_istore (lv' := [(4, .int 0), (0, .ref (ad 32)), (1, .ref (ad (182 + 6 * b1))), (2, .ref (ad 182)), (3, .int (-1))]) hx hb dX10_leastHarm_8 hl (by decide) rfl (fun ls hl => ?_)
    have hl := lv_sub hl [1, 2, 3, 4, 0] (l' := [(0, .ref (ad 32)), (1, .ref (ad (182 + 6 * b1))), (2, .ref (ad 182)), (3, .int (-1)), (4, .int 0)]) rfl
    exact w10 FU σ12 (-1) 0 H locs ls h hP hD hS (lv_sub hl [0, 2, 3, 4] rfl)
  intro H locs ls h hP hD hS hl
  exact w0 σ H locs ls h hP hD hS (lv_sub hl [0, 1, 2] rfl)

set_option maxHeartbeats 4000000 in
set_option maxRecDepth 100000 in
theorem tX11_feed (l : Launch) (dC : Nat → ClassId) (dI : Nat → Nat → Nat) (cy : Nat → ClassId) (ad : Nat → Nat) (τ nb : Nat) (hτ : τ < nb) (σ : S2) (a1 : Int32) (a2 : Int32) (sz : Nat) (r0 : Int32) (σ9 : S2) (h : fX11_feed τ σ a1 a2 = some (r0, σ9)) : Met l yX11_feed wsX11_feed ({ frames := 2, cells := 0, slots := 0, locals := 46 }) (va_Pc [.ref (ad 0), .int a1, .int a2] (wPre (dC, dI) cy (wG (cC cy ad τ) ad (182 + 6 * nb) σ) sz)) (va_Qi (fun (r : Int32) (_ : Unit) => r = r0) (fun (_ : Unit) t => wAt (dC, dI) (va_A (wG (cC cy ad τ) ad (182 + 6 * nb) σ) sz) (wG (cC cy ad τ) ad (182 + 6 * nb) σ9) t) (va_A (wG (cC cy ad τ) ad (182 + 6 * nb) σ) sz)) 0 0 (va_A (wG (cC cy ad τ) ad (182 + 6 * nb) σ) sz) := by
  refine Met.ofW (cc := cX11_feed) (maxL := 3) (ret := (some .int)) (by decide) rfl ?_
  intro p e s m args below meth c s₁ B hml hv
  obtain ⟨rfl, hsz, hP, hK, hD0, hN⟩ := hv
  have hx := B.exec
  have hb := B.bytes
  have hr := B.returns
  have hts := atoms_spec (ws := wsX11_feed) B.pre
  have hown : s.vm.findClass RX11 = some m.cls := findClass_of_methodNamed B.named
  have hlocks := B.notSynchronized
  subst hsz
  have hD := hD0.self (sz := s.heap.size)
  generalize hAe : va_A (wG (cC cy ad τ) ad (182 + 6 * nb) σ) s.heap.size = A at hD ⊢
  have hA : ∀ q : Nat, s.heap.size ≤ q → A q := fun q h => by rw [← hAe]; exact Or.inr h
  have hS : va_S A s.heap s.heap [] := va_S.rf
  have hl := lv_entry ([.ref (ad 0), .int a1, .int a2]) (n := 3) (Nat.le_of_ble_eq_true rfl)
  rw [lg_entry_eq]
  generalize (lg_sl ([.ref (ad 0), .int a1, .int a2]) ++ List.replicate (3 - (lg_sl ([.ref (ad 0), .int a1, .int a2])).length) Slot.unset).toArray = ls at hl ⊢
  have hl : lv_has ls 3 [(0, .ref (ad 0)), (1, .int a1), (2, .int a2)] := hl
  unfold fX11_feed at h
  clear hAe hD0
  suffices HH : ∀ (H : Heap) (locs : List Loc) (ls : Array Slot), fX11_feed_0 τ σ a1 a2 = some (r0, σ9) → va_P (dC, dI) vwCl (wG (cC cy ad τ) ad (182 + 6 * nb) σ) H → va_D A (wG (cC cy ad τ) ad (182 + 6 * nb) σ) → va_S A s.heap H locs → lv_has ls 3 [(0, .ref (ad 0)), (1, .int a1), (2, .int a2)] → W p l e (headSpec wsX11_feed ({ frames := 2, cells := 0, slots := 0, locals := 46 })).room s m (#[.ref (ad 0), .int a1, .int a2]) below meth c H locs 0 0 (MQ below (va_Qi (fun (r : Int32) (_ : Unit) => r = r0) (fun (_ : Unit) t => wAt (dC, dI) A (wG (cC cy ad τ) ad (182 + 6 * nb) σ9) t) A) (#[.ref (ad 0), .int a1, .int a2]) s 0 0 A) (F0 m 0 ls []) from HH s.heap [] ls h hP hD hS hl
  have w0 : ∀ (σ : S2) (x1 : Int32) (x2 : Int32) (H : Heap) (locs : List Loc) (ls : Array Slot), fX11_feed_0 τ σ x1 x2 = some (r0, σ9) → va_P (dC, dI) vwCl (wG (cC cy ad τ) ad (182 + 6 * nb) σ) H → va_D A (wG (cC cy ad τ) ad (182 + 6 * nb) σ) → va_S A s.heap H locs → lv_has ls 3 [(0, .ref (ad 0)), (1, .int x1), (2, .int x2)] → W p l e (headSpec wsX11_feed ({ frames := 2, cells := 0, slots := 0, locals := 46 })).room s m (#[.ref (ad 0), .int a1, .int a2]) below meth c H locs 0 0 (MQ below (va_Qi (fun (r : Int32) (_ : Unit) => r = r0) (fun (_ : Unit) t => wAt (dC, dI) A (wG (cC cy ad τ) ad (182 + 6 * nb) σ9) t) A) (#[.ref (ad 0), .int a1, .int a2]) s 0 0 A) (F0 m 0 ls []) := by
    intro σ x1 x2 H locs ls h hP hD hS hl
    unfold fX11_feed_0 at h
    refine lv_iload_n hx hb dX11_feed_0 rfl (lv_at hl 1 rfl) ?_
    refine lv_iconst (v := 1) hx hb dX11_feed_1 (by decide) ?_
    refine lv_icmp_lt (tgt := 10) hx hb dX11_feed_2 (by decide) (fun hcd => ?_) (fun hcd => ?_)
    · have h := cdP hcd h
      refine lv_iconst (v := (-1)) hx hb dX11_feed_10 (by decide) ?_
      exact ux_iret hx hb hr h hP hD hS hlocks dX11_feed_11
    · have h := cdN hcd h
      refine lv_iload_n hx hb dX11_feed_5 rfl (lv_at hl 1 rfl) ?_
      refine lv_iconst (v := 4) hx hb dX11_feed_6 (by decide) ?_
      refine lv_icmp_le (tgt := 12) hx hb dX11_feed_7 (by decide) (fun hcd => ?_) (fun hcd => ?_)
      · have h := cdP hcd h
        refine lv_aload_n hx hb dX11_feed_12 rfl (lv_at hl 0 rfl) ?_
        refine ux_get (D := (dC, dI)) (ci := 11) (v := .ref (ad 1)) (C := RX11) (T := TX11) (M := 13) (fs := (oSR ad (σ.1 0))) hx hb hts (fun _ h9 => List.mem_cons_of_mem _ (List.mem_append_left _ (List.mem_append_right _ h9))) hown hK hP 0 (Nat.lt_of_lt_of_le (Nat.le_of_ble_eq_true rfl : 0 < 182) (Nat.le_add_right _ _)) (cC_0 _ _ _ _ _) rfl 0 (by decide) (hts (.fieldLink RX11 10 "SeatsRound" "tape" "LSeatsRound$Tape;") (List.mem_of_getElem? (i := 1) rfl)) (fun _ h9 => h9) rfl dX11_feed_13 ?_
        refine ux_get (D := (dC, dI)) (ci := 9) (v := .int (σ.1 1 1)) (C := RX9) (T := TX9) (M := 2) (fs := (oTP ad (σ.1 1))) hx hb hts (fun _ h9 => List.mem_cons_of_mem _ (List.mem_append_right _ h9)) hown hK hP 1 (Nat.lt_of_lt_of_le (Nat.le_of_ble_eq_true rfl : 1 < 182) (Nat.le_add_right _ _)) (cC_1 _ _ _ _ _) rfl 1 (by decide) (hts (.fieldLink RX11 102 "SeatsRound$Tape" "length" "I") (List.mem_of_getElem? (i := 2) rfl)) (fun _ h9 => h9) rfl dX11_feed_16 ?_
        refine lv_iload_n hx hb dX11_feed_19 rfl (lv_at hl 1 rfl) ?_
        refine lv_iadd hx hb dX11_feed_20 ?_
        refine lv_bipush (v := 80) hx hb dX11_feed_21 (by decide) ?_
        refine lv_icmp_le (tgt := 29) hx hb dX11_feed_23 (by decide) (fun hcd => ?_) (fun hcd => ?_)
        · have h := cdP hcd h
          refine lv_aload_n hx hb dX11_feed_29 rfl (lv_at hl 0 rfl) ?_
          refine ux_get (D := (dC, dI)) (ci := 11) (v := .ref (ad 1)) (C := RX11) (T := TX11) (M := 13) (fs := (oSR ad (σ.1 0))) hx hb hts (fun _ h9 => List.mem_cons_of_mem _ (List.mem_append_left _ (List.mem_append_right _ h9))) hown hK hP 0 (Nat.lt_of_lt_of_le (Nat.le_of_ble_eq_true rfl : 0 < 182) (Nat.le_add_right _ _)) (cC_0 _ _ _ _ _) rfl 0 (by decide) (hts (.fieldLink RX11 10 "SeatsRound" "tape" "LSeatsRound$Tape;") (List.mem_of_getElem? (i := 1) rfl)) (fun _ h9 => h9) rfl dX11_feed_30 ?_
          refine lv_iload_n hx hb dX11_feed_33 rfl (lv_at hl 1 rfl) ?_
          refine lv_iload_n hx hb dX11_feed_34 rfl (lv_at hl 2 rfl) ?_
          obtain ⟨r1, σ2, hf3, h⟩ := bsS h
          refine ux_callv (va_runV (As := [.int x1, .int x2]) (rest := []) ⟨hx, hb, hml, hown, hts⟩ (tX9_append l dC dI cy ad τ nb hτ σ x1 x2 H.size r1 σ2 hf3) (cwV 2 hts gX11_feed_X9_append rfl rfl rfl (by decide +kernel) ⟨Nat.le_of_ble_eq_true rfl, Nat.le_of_ble_eq_true rfl⟩) (wp_V hK hN hP hD (va_recv hK hP (ci := 9) (q0 := 1) rfl (wG_of (Nat.lt_of_lt_of_le (Nat.le_of_ble_eq_true rfl : 1 < 182) (Nat.le_add_right _ _)) (cC_1 _ _ _ _ _)))) rfl rfl hl.1 rfl (lv_room (Nat.le_of_ble_eq_true rfl)) dX11_feed_35 ⟨Nat.le_of_ble_eq_true rfl, Nat.le_of_ble_eq_true rfl⟩) hD hS hA (fun H locs hP hD hS => ?_)
          refine lv_aload_n hx hb dX11_feed_38 rfl (lv_at hl 0 rfl) ?_
          refine ux_get (D := (dC, dI)) (ci := 11) (v := .ref (ad 1)) (C := RX11) (T := TX11) (M := 13) (fs := (oSR ad (σ2.1 0))) hx hb hts (fun _ h9 => List.mem_cons_of_mem _ (List.mem_append_left _ (List.mem_append_right _ h9))) hown hK hP 0 (Nat.lt_of_lt_of_le (Nat.le_of_ble_eq_true rfl : 0 < 182) (Nat.le_add_right _ _)) (cC_0 _ _ _ _ _) rfl 0 (by decide) (hts (.fieldLink RX11 10 "SeatsRound" "tape" "LSeatsRound$Tape;") (List.mem_of_getElem? (i := 1) rfl)) (fun _ h9 => h9) rfl dX11_feed_39 ?_
          refine ux_get (D := (dC, dI)) (ci := 9) (v := .int (σ2.1 1 1)) (C := RX9) (T := TX9) (M := 2) (fs := (oTP ad (σ2.1 1))) hx hb hts (fun _ h9 => List.mem_cons_of_mem _ (List.mem_append_right _ h9)) hown hK hP 1 (Nat.lt_of_lt_of_le (Nat.le_of_ble_eq_true rfl : 1 < 182) (Nat.le_add_right _ _)) (cC_1 _ _ _ _ _) rfl 1 (by decide) (hts (.fieldLink RX11 102 "SeatsRound$Tape" "length" "I") (List.mem_of_getElem? (i := 2) rfl)) (fun _ h9 => h9) rfl dX11_feed_42 ?_
          exact ux_iret hx hb hr h hP hD hS hlocks dX11_feed_45
        · have h := cdN hcd h
          refine lv_bipush (v := (-3)) hx hb dX11_feed_26 (by decide) ?_
          exact ux_iret hx hb hr h hP hD hS hlocks dX11_feed_28
      · have h := cdN hcd h
        refine lv_iconst (v := (-1)) hx hb dX11_feed_10 (by decide) ?_
        exact ux_iret hx hb hr h hP hD hS hlocks dX11_feed_11
  intro H locs ls h hP hD hS hl
  exact w0 σ a1 a2 H locs ls h hP hD hS (lv_sub hl [0, 1, 2] rfl)

set_option maxHeartbeats 4000000 in
set_option maxRecDepth 100000 in
theorem tX11_name (l : Launch) (dC : Nat → ClassId) (dI : Nat → Nat → Nat) (cy : Nat → ClassId) (ad : Nat → Nat) (τ nb : Nat) (hτ : τ < nb) (σ : S2)  (sz : Nat) (r0 : Int32) (σ9 : S2) (h : fX11_name τ σ = some (r0, σ9)) : Met l yX11_name wsX11_name ({ frames := 3, cells := 0, slots := 0, locals := 83 }) (va_Pc [.ref (ad 0)] (wPre (dC, dI) cy (wG (cC cy ad τ) ad (182 + 6 * nb) σ) sz)) (va_Qi (fun (r : Int32) (_ : Unit) => r = r0) (fun (_ : Unit) t => wAt (dC, dI) (va_A (wG (cC cy ad τ) ad (182 + 6 * nb) σ) sz) (wG (cC cy ad τ) ad (182 + 6 * nb) σ9) t) (va_A (wG (cC cy ad τ) ad (182 + 6 * nb) σ) sz)) 0 0 (va_A (wG (cC cy ad τ) ad (182 + 6 * nb) σ) sz) := by
  refine Met.ofW (cc := cX11_name) (maxL := 2) (ret := (some .int)) (by decide) rfl ?_
  intro p e s m args below meth c s₁ B hml hv
  obtain ⟨rfl, hsz, hP, hK, hD0, hN⟩ := hv
  have hx := B.exec
  have hb := B.bytes
  have hr := B.returns
  have hts := atoms_spec (ws := wsX11_name) B.pre
  have hown : s.vm.findClass RX11 = some m.cls := findClass_of_methodNamed B.named
  have hlocks := B.notSynchronized
  subst hsz
  have hD := hD0.self (sz := s.heap.size)
  generalize hAe : va_A (wG (cC cy ad τ) ad (182 + 6 * nb) σ) s.heap.size = A at hD ⊢
  have hA : ∀ q : Nat, s.heap.size ≤ q → A q := fun q h => by rw [← hAe]; exact Or.inr h
  have hS : va_S A s.heap s.heap [] := va_S.rf
  have hl := lv_entry ([.ref (ad 0)]) (n := 2) (Nat.le_of_ble_eq_true rfl)
  rw [lg_entry_eq]
  generalize (lg_sl ([.ref (ad 0)]) ++ List.replicate (2 - (lg_sl ([.ref (ad 0)])).length) Slot.unset).toArray = ls at hl ⊢
  have hl : lv_has ls 2 [(0, .ref (ad 0))] := hl
  unfold fX11_name at h
  clear hAe hD0
  suffices HH : ∀ (H : Heap) (locs : List Loc) (ls : Array Slot), fX11_name_0 τ σ = some (r0, σ9) → va_P (dC, dI) vwCl (wG (cC cy ad τ) ad (182 + 6 * nb) σ) H → va_D A (wG (cC cy ad τ) ad (182 + 6 * nb) σ) → va_S A s.heap H locs → lv_has ls 2 [(0, .ref (ad 0))] → W p l e (headSpec wsX11_name ({ frames := 3, cells := 0, slots := 0, locals := 83 })).room s m (#[.ref (ad 0)]) below meth c H locs 0 0 (MQ below (va_Qi (fun (r : Int32) (_ : Unit) => r = r0) (fun (_ : Unit) t => wAt (dC, dI) A (wG (cC cy ad τ) ad (182 + 6 * nb) σ9) t) A) (#[.ref (ad 0)]) s 0 0 A) (F0 m 0 ls []) from HH s.heap [] ls h hP hD hS hl
  have w91 : ∀ (σ : S2) (x1 : Int32) (H : Heap) (locs : List Loc) (ls : Array Slot), fX11_name_91 τ σ x1 = some (r0, σ9) → va_P (dC, dI) vwCl (wG (cC cy ad τ) ad (182 + 6 * nb) σ) H → va_D A (wG (cC cy ad τ) ad (182 + 6 * nb) σ) → va_S A s.heap H locs → lv_has ls 2 [(0, .ref (ad 0)), (1, .int x1)] → W p l e (headSpec wsX11_name ({ frames := 3, cells := 0, slots := 0, locals := 83 })).room s m (#[.ref (ad 0)]) below meth c H locs 0 0 (MQ below (va_Qi (fun (r : Int32) (_ : Unit) => r = r0) (fun (_ : Unit) t => wAt (dC, dI) A (wG (cC cy ad τ) ad (182 + 6 * nb) σ9) t) A) (#[.ref (ad 0)]) s 0 0 A) (F0 m 91 ls []) := by
    intro σ x1 H locs ls h hP hD hS hl
    unfold fX11_name_91 at h
    refine lv_aload_n hx hb dX11_name_91 rfl (lv_at hl 0 rfl) ?_
    refine ux_get (D := (dC, dI)) (ci := 11) (v := .ref (ad 1)) (C := RX11) (T := TX11) (M := 13) (fs := (oSR ad (σ.1 0))) hx hb hts (fun _ h9 => List.mem_cons_of_mem _ (List.mem_append_left _ (List.mem_append_left _ (List.mem_append_right _ h9)))) hown hK hP 0 (Nat.lt_of_lt_of_le (Nat.le_of_ble_eq_true rfl : 0 < 182) (Nat.le_add_right _ _)) (cC_0 _ _ _ _ _) rfl 0 (by decide) (hts (.fieldLink RX11 10 "SeatsRound" "tape" "LSeatsRound$Tape;") (List.mem_of_getElem? (i := 1) rfl)) (fun _ h9 => h9) rfl dX11_name_92 ?_
    refine lv_iconst (v := 0) hx hb dX11_name_95 (by decide) ?_
    refine ux_put (D := (dC, dI)) (ci := 9) (C := RX9) (T := TX9) (M := 2) (fs := (oTP ad (σ.1 1))) hx hb hts (fun _ h9 => List.mem_cons_of_mem _ (List.mem_append_left _ (List.mem_append_right _ h9))) tyX9 tyX9_ok nmX9 hown hK hP hD hS 1 (Nat.lt_of_lt_of_le (Nat.le_of_ble_eq_true rfl : 1 < 182) (Nat.le_add_right _ _)) (cC_1 _ _ _ _ _) rfl 1 (by decide) (hts (.fieldLink RX11 102 "SeatsRound$Tape" "length" "I") (List.mem_of_getElem? (i := 2) rfl)) (fun _ h9 => h9) rfl (tyX9_ok 1 (by decide)) rfl rfl (Nat.le_of_ble_eq_true rfl) (oC_1_1 _ _ _ _ _ _) h dX11_name_96 (fun σ1 H locs h hP hD hS => ?_)
    refine lv_iload_n hx hb dX11_name_99 rfl (lv_at hl 1 rfl) ?_
    exact ux_iret hx hb hr h hP hD hS hlocks dX11_name_100
  have w0 : ∀ (σ : S2)  (H : Heap) (locs : List Loc) (ls : Array Slot), fX11_name_0 τ σ = some (r0, σ9) → va_P (dC, dI) vwCl (wG (cC cy ad τ) ad (182 + 6 * nb) σ) H → va_D A (wG (cC cy ad τ) ad (182 + 6 * nb) σ) → va_S A s.heap H locs → lv_has ls 2 [(0, .ref (ad 0))] → W p l e (headSpec wsX11_name ({ frames := 3, cells := 0, slots := 0, locals := 83 })).room s m (#[.ref (ad 0)]) below meth c H locs 0 0 (MQ below (va_Qi (fun (r : Int32) (_ : Unit) => r = r0) (fun (_ : Unit) t => wAt (dC, dI) A (wG (cC cy ad τ) ad (182 + 6 * nb) σ9) t) A) (#[.ref (ad 0)]) s 0 0 A) (F0 m 0 ls []) := by
    intro σ H locs ls h hP hD hS hl
    unfold fX11_name_0 at h
    refine lv_aload_n hx hb dX11_name_0 rfl (lv_at hl 0 rfl) ?_
    refine ux_get (D := (dC, dI)) (ci := 11) (v := .ref (ad 1)) (C := RX11) (T := TX11) (M := 13) (fs := (oSR ad (σ.1 0))) hx hb hts (fun _ h9 => List.mem_cons_of_mem _ (List.mem_append_left _ (List.mem_append_left _ (List.mem_append_right _ h9)))) hown hK hP 0 (Nat.lt_of_lt_of_le (Nat.le_of_ble_eq_true rfl : 0 < 182) (Nat.le_add_right _ _)) (cC_0 _ _ _ _ _) rfl 0 (by decide) (hts (.fieldLink RX11 10 "SeatsRound" "tape" "LSeatsRound$Tape;") (List.mem_of_getElem? (i := 1) rfl)) (fun _ h9 => h9) rfl dX11_name_1 ?_
    refine ux_get (D := (dC, dI)) (ci := 9) (v := .int (σ.1 1 1)) (C := RX9) (T := TX9) (M := 2) (fs := (oTP ad (σ.1 1))) hx hb hts (fun _ h9 => List.mem_cons_of_mem _ (List.mem_append_left _ (List.mem_append_right _ h9))) hown hK hP 1 (Nat.lt_of_lt_of_le (Nat.le_of_ble_eq_true rfl : 1 < 182) (Nat.le_add_right _ _)) (cC_1 _ _ _ _ _) rfl 1 (by decide) (hts (.fieldLink RX11 102 "SeatsRound$Tape" "length" "I") (List.mem_of_getElem? (i := 2) rfl)) (fun _ h9 => h9) rfl dX11_name_4 ?_
    refine lv_iconst (v := 1) hx hb dX11_name_7 (by decide) ?_
    refine lv_icmp_lt (tgt := 23) hx hb dX11_name_8 (by decide) (fun hcd => ?_) (fun hcd => ?_)
    · have h := cdP hcd h
      refine lv_iconst (v := (-1)) hx hb dX11_name_23 (by decide) ?_
      exact ux_iret hx hb hr h hP hD hS hlocks dX11_name_24
    · have h := cdN hcd h
      refine lv_aload_n hx hb dX11_name_11 rfl (lv_at hl 0 rfl) ?_
      refine ux_get (D := (dC, dI)) (ci := 11) (v := .ref (ad 1)) (C := RX11) (T := TX11) (M := 13) (fs := (oSR ad (σ.1 0))) hx hb hts (fun _ h9 => List.mem_cons_of_mem _ (List.mem_append_left _ (List.mem_append_left _ (List.mem_append_right _ h9)))) hown hK hP 0 (Nat.lt_of_lt_of_le (Nat.le_of_ble_eq_true rfl : 0 < 182) (Nat.le_add_right _ _)) (cC_0 _ _ _ _ _) rfl 0 (by decide) (hts (.fieldLink RX11 10 "SeatsRound" "tape" "LSeatsRound$Tape;") (List.mem_of_getElem? (i := 1) rfl)) (fun _ h9 => h9) rfl dX11_name_12 ?_
      refine ux_get (D := (dC, dI)) (ci := 9) (v := .int (σ.1 1 1)) (C := RX9) (T := TX9) (M := 2) (fs := (oTP ad (σ.1 1))) hx hb hts (fun _ h9 => List.mem_cons_of_mem _ (List.mem_append_left _ (List.mem_append_right _ h9))) hown hK hP 1 (Nat.lt_of_lt_of_le (Nat.le_of_ble_eq_true rfl : 1 < 182) (Nat.le_add_right _ _)) (cC_1 _ _ _ _ _) rfl 1 (by decide) (hts (.fieldLink RX11 102 "SeatsRound$Tape" "length" "I") (List.mem_of_getElem? (i := 2) rfl)) (fun _ h9 => h9) rfl dX11_name_15 ?_
      refine lv_bipush (v := 6) hx hb dX11_name_18 (by decide) ?_
      refine lv_icmp_le (tgt := 25) hx hb dX11_name_20 (by decide) (fun hcd => ?_) (fun hcd => ?_)
      · have h := cdP hcd h
        refine lv_aload_n hx hb dX11_name_25 rfl (lv_at hl 0 rfl) ?_
        refine ux_get (D := (dC, dI)) (ci := 11) (v := .ref (ad 3)) (C := RX11) (T := TX11) (M := 13) (fs := (oSR ad (σ.1 0))) hx hb hts (fun _ h9 => List.mem_cons_of_mem _ (List.mem_append_left _ (List.mem_append_left _ (List.mem_append_right _ h9)))) hown hK hP 0 (Nat.lt_of_lt_of_le (Nat.le_of_ble_eq_true rfl : 0 < 182) (Nat.le_add_right _ _)) (cC_0 _ _ _ _ _) rfl 1 (by decide) (hts (.fieldLink RX11 19 "SeatsRound" "nameList" "LSeatsRound$NameList;") (List.mem_of_getElem? (i := 3) rfl)) (fun _ h9 => h9) rfl dX11_name_26 ?_
        refine lv_aload_n hx hb dX11_name_29 rfl (lv_at hl 0 rfl) ?_
        refine ux_get (D := (dC, dI)) (ci := 11) (v := .ref (ad 1)) (C := RX11) (T := TX11) (M := 13) (fs := (oSR ad (σ.1 0))) hx hb hts (fun _ h9 => List.mem_cons_of_mem _ (List.mem_append_left _ (List.mem_append_left _ (List.mem_append_right _ h9)))) hown hK hP 0 (Nat.lt_of_lt_of_le (Nat.le_of_ble_eq_true rfl : 0 < 182) (Nat.le_add_right _ _)) (cC_0 _ _ _ _ _) rfl 0 (by decide) (hts (.fieldLink RX11 10 "SeatsRound" "tape" "LSeatsRound$Tape;") (List.mem_of_getElem? (i := 1) rfl)) (fun _ h9 => h9) rfl dX11_name_30 ?_
        refine ux_get (D := (dC, dI)) (ci := 9) (v := .ref (ad 2)) (C := RX9) (T := TX9) (M := 2) (fs := (oTP ad (σ.1 1))) hx hb hts (fun _ h9 => List.mem_cons_of_mem _ (List.mem_append_left _ (List.mem_append_right _ h9))) hown hK hP 1 (Nat.lt_of_lt_of_le (Nat.le_of_ble_eq_true rfl : 1 < 182) (Nat.le_add_right _ _)) (cC_1 _ _ _ _ _) rfl 0 (by decide) (hts (.fieldLink RX11 109 "SeatsRound$Tape" "bytes" "[B") (List.mem_of_getElem? (i := 4) rfl)) (fun _ h9 => h9) rfl dX11_name_33 ?_
        refine lv_iconst (v := 0) hx hb dX11_name_36 (by decide) ?_
        refine lv_aload_n hx hb dX11_name_37 rfl (lv_at hl 0 rfl) ?_
        refine ux_get (D := (dC, dI)) (ci := 11) (v := .ref (ad 1)) (C := RX11) (T := TX11) (M := 13) (fs := (oSR ad (σ.1 0))) hx hb hts (fun _ h9 => List.mem_cons_of_mem _ (List.mem_append_left _ (List.mem_append_left _ (List.mem_append_right _ h9)))) hown hK hP 0 (Nat.lt_of_lt_of_le (Nat.le_of_ble_eq_true rfl : 0 < 182) (Nat.le_add_right _ _)) (cC_0 _ _ _ _ _) rfl 0 (by decide) (hts (.fieldLink RX11 10 "SeatsRound" "tape" "LSeatsRound$Tape;") (List.mem_of_getElem? (i := 1) rfl)) (fun _ h9 => h9) rfl dX11_name_38 ?_
        change W _ _ _ _ _ _ _ _ _ _ _ _ _ _ _ (F0 m 41 ls [.ref (ad 1), .int 0, .ref (ad 2), .ref (ad 3)])
        refine ux_get (D := (dC, dI)) (ci := 9) (v := .int (σ.1 1 1)) (C := RX9) (T := TX9) (M := 2) (fs := (oTP ad (σ.1 1))) hx hb hts (fun _ h9 => List.mem_cons_of_mem _ (List.mem_append_left _ (List.mem_append_right _ h9))) hown hK hP 1 (Nat.lt_of_lt_of_le (Nat.le_of_ble_eq_true rfl : 1 < 182) (Nat.le_add_right _ _)) (cC_1 _ _ _ _ _) rfl 1 (by decide) (hts (.fieldLink RX11 102 "SeatsRound$Tape" "length" "I") (List.mem_of_getElem? (i := 2) rfl)) (fun _ h9 => h9) rfl dX11_name_41 ?_
        obtain ⟨r2, hf3, h⟩ := biS h
        refine ux_calli (va_runV (As := [.ref (ad 2), .int 0, .int (σ.1 1 1)]) (rest := []) ⟨hx, hb, hml, hown, hts⟩ (tX4_find l dC dI cy ad τ nb hτ 2 80 (Nat.lt_of_lt_of_le (Nat.le_of_ble_eq_true rfl : 2 < 182) (Nat.le_add_right _ _)) (fun _ _ => (cC_2 _ _ _ _ _)) σ 0 (σ.1 1 1) H.size r2 hf3) (cwV 3 hts gX11_name_X4_find rfl rfl rfl (by decide +kernel) ⟨Nat.le_of_ble_eq_true rfl, Nat.le_of_ble_eq_true rfl⟩) (wp_V hK hN hP hD (va_recv hK hP (ci := 4) (q0 := 3) rfl (wG_of (Nat.lt_of_lt_of_le (Nat.le_of_ble_eq_true rfl : 3 < 182) (Nat.le_add_right _ _)) (cC_3 _ _ _ _ _)))) rfl rfl hl.1 rfl (lv_room (Nat.le_of_ble_eq_true rfl)) dX11_name_44 ⟨Nat.le_of_ble_eq_true rfl, Nat.le_of_ble_eq_true rfl⟩) hD hS hA (fun H locs hP hD hS => ?_)
        refine lv_istore_n (lv' := [(1, .int r2), (0, .ref (ad 0))]) hx hb dX11_name_47 rfl hl (by decide) rfl (fun ls hl => ?_)
        have hl := lv_sub hl [1, 0] (l' := [(0, .ref (ad 0)), (1, .int r2)]) rfl
        refine lv_iload_n hx hb dX11_name_48 rfl (lv_at hl 1 rfl) ?_
        refine lv_iconst (v := (-1)) hx hb dX11_name_49 (by decide) ?_
        refine lv_icmp_ne (tgt := 91) hx hb dX11_name_50 (by decide) (fun hcd => ?_) (fun hcd => ?_)
        · have h := cdN hcd h
          exact w91 σ r2 H locs ls h hP hD hS hl
        · have h := cdP hcd h
          refine lv_aload_n hx hb dX11_name_53 rfl (lv_at hl 0 rfl) ?_
          refine ux_get (D := (dC, dI)) (ci := 11) (v := .ref (ad 3)) (C := RX11) (T := TX11) (M := 13) (fs := (oSR ad (σ.1 0))) hx hb hts (fun _ h9 => List.mem_cons_of_mem _ (List.mem_append_left _ (List.mem_append_left _ (List.mem_append_right _ h9)))) hown hK hP 0 (Nat.lt_of_lt_of_le (Nat.le_of_ble_eq_true rfl : 0 < 182) (Nat.le_add_right _ _)) (cC_0 _ _ _ _ _) rfl 1 (by decide) (hts (.fieldLink RX11 19 "SeatsRound" "nameList" "LSeatsRound$NameList;") (List.mem_of_getElem? (i := 3) rfl)) (fun _ h9 => h9) rfl dX11_name_54 ?_
          refine ux_get (D := (dC, dI)) (ci := 4) (v := .int (σ.1 3 3)) (C := RX4) (T := TX4) (M := 4) (fs := (oNL ad (σ.1 3))) hx hb hts (fun _ h9 => List.mem_cons_of_mem _ (List.mem_append_right _ h9)) hown hK hP 3 (Nat.lt_of_lt_of_le (Nat.le_of_ble_eq_true rfl : 3 < 182) (Nat.le_add_right _ _)) (cC_3 _ _ _ _ _) rfl 3 (by decide) (hts (.fieldLink RX11 117 "SeatsRound$NameList" "count" "I") (List.mem_of_getElem? (i := 5) rfl)) (fun _ h9 => h9) rfl dX11_name_57 ?_
          refine lv_bipush (v := 40) hx hb dX11_name_60 (by decide) ?_
          refine lv_icmp_lt (tgt := 68) hx hb dX11_name_62 (by decide) (fun hcd => ?_) (fun hcd => ?_)
          · have h := cdP hcd h
            refine lv_aload_n hx hb dX11_name_68 rfl (lv_at hl 0 rfl) ?_
            refine ux_get (D := (dC, dI)) (ci := 11) (v := .ref (ad 3)) (C := RX11) (T := TX11) (M := 13) (fs := (oSR ad (σ.1 0))) hx hb hts (fun _ h9 => List.mem_cons_of_mem _ (List.mem_append_left _ (List.mem_append_left _ (List.mem_append_right _ h9)))) hown hK hP 0 (Nat.lt_of_lt_of_le (Nat.le_of_ble_eq_true rfl : 0 < 182) (Nat.le_add_right _ _)) (cC_0 _ _ _ _ _) rfl 1 (by decide) (hts (.fieldLink RX11 19 "SeatsRound" "nameList" "LSeatsRound$NameList;") (List.mem_of_getElem? (i := 3) rfl)) (fun _ h9 => h9) rfl dX11_name_69 ?_
            refine lv_aload_n hx hb dX11_name_72 rfl (lv_at hl 0 rfl) ?_
            refine ux_get (D := (dC, dI)) (ci := 11) (v := .ref (ad 1)) (C := RX11) (T := TX11) (M := 13) (fs := (oSR ad (σ.1 0))) hx hb hts (fun _ h9 => List.mem_cons_of_mem _ (List.mem_append_left _ (List.mem_append_left _ (List.mem_append_right _ h9)))) hown hK hP 0 (Nat.lt_of_lt_of_le (Nat.le_of_ble_eq_true rfl : 0 < 182) (Nat.le_add_right _ _)) (cC_0 _ _ _ _ _) rfl 0 (by decide) (hts (.fieldLink RX11 10 "SeatsRound" "tape" "LSeatsRound$Tape;") (List.mem_of_getElem? (i := 1) rfl)) (fun _ h9 => h9) rfl dX11_name_73 ?_
            refine ux_get (D := (dC, dI)) (ci := 9) (v := .ref (ad 2)) (C := RX9) (T := TX9) (M := 2) (fs := (oTP ad (σ.1 1))) hx hb hts (fun _ h9 => List.mem_cons_of_mem _ (List.mem_append_left _ (List.mem_append_right _ h9))) hown hK hP 1 (Nat.lt_of_lt_of_le (Nat.le_of_ble_eq_true rfl : 1 < 182) (Nat.le_add_right _ _)) (cC_1 _ _ _ _ _) rfl 0 (by decide) (hts (.fieldLink RX11 109 "SeatsRound$Tape" "bytes" "[B") (List.mem_of_getElem? (i := 4) rfl)) (fun _ h9 => h9) rfl dX11_name_76 ?_
            refine lv_iconst (v := 0) hx hb dX11_name_79 (by decide) ?_
            refine lv_aload_n hx hb dX11_name_80 rfl (lv_at hl 0 rfl) ?_
            refine ux_get (D := (dC, dI)) (ci := 11) (v := .ref (ad 1)) (C := RX11) (T := TX11) (M := 13) (fs := (oSR ad (σ.1 0))) hx hb hts (fun _ h9 => List.mem_cons_of_mem _ (List.mem_append_left _ (List.mem_append_left _ (List.mem_append_right _ h9)))) hown hK hP 0 (Nat.lt_of_lt_of_le (Nat.le_of_ble_eq_true rfl : 0 < 182) (Nat.le_add_right _ _)) (cC_0 _ _ _ _ _) rfl 0 (by decide) (hts (.fieldLink RX11 10 "SeatsRound" "tape" "LSeatsRound$Tape;") (List.mem_of_getElem? (i := 1) rfl)) (fun _ h9 => h9) rfl dX11_name_81 ?_
            change W _ _ _ _ _ _ _ _ _ _ _ _ _ _ _ (F0 m 84 ls [.ref (ad 1), .int 0, .ref (ad 2), .ref (ad 3)])
            refine ux_get (D := (dC, dI)) (ci := 9) (v := .int (σ.1 1 1)) (C := RX9) (T := TX9) (M := 2) (fs := (oTP ad (σ.1 1))) hx hb hts (fun _ h9 => List.mem_cons_of_mem _ (List.mem_append_left _ (List.mem_append_right _ h9))) hown hK hP 1 (Nat.lt_of_lt_of_le (Nat.le_of_ble_eq_true rfl : 1 < 182) (Nat.le_add_right _ _)) (cC_1 _ _ _ _ _) rfl 1 (by decide) (hts (.fieldLink RX11 102 "SeatsRound$Tape" "length" "I") (List.mem_of_getElem? (i := 2) rfl)) (fun _ h9 => h9) rfl dX11_name_84 ?_
            obtain ⟨r4, σ5, hf6, h⟩ := bsS h
            refine ux_calli (va_runV (As := [.ref (ad 2), .int 0, .int (σ.1 1 1)]) (rest := []) ⟨hx, hb, hml, hown, hts⟩ (tX4_add l dC dI cy ad τ nb hτ 2 80 (Nat.lt_of_lt_of_le (Nat.le_of_ble_eq_true rfl : 2 < 182) (Nat.le_add_right _ _)) (fun _ _ => (cC_2 _ _ _ _ _)) σ 0 (σ.1 1 1) H.size r4 σ5 hf6) (cwV 3 hts gX11_name_X4_add rfl rfl rfl (by decide +kernel) ⟨Nat.le_of_ble_eq_true rfl, Nat.le_of_ble_eq_true rfl⟩) (wp_V hK hN hP hD (va_recv hK hP (ci := 4) (q0 := 3) rfl (wG_of (Nat.lt_of_lt_of_le (Nat.le_of_ble_eq_true rfl : 3 < 182) (Nat.le_add_right _ _)) (cC_3 _ _ _ _ _)))) rfl rfl hl.1 rfl (lv_room (Nat.le_of_ble_eq_true rfl)) dX11_name_87 ⟨Nat.le_of_ble_eq_true rfl, Nat.le_of_ble_eq_true rfl⟩) hD hS hA (fun H locs hP hD hS => ?_)
            refine lv_istore_n (lv' := [(1, .int r4), (0, .ref (ad 0))]) hx hb dX11_name_90 rfl hl (by decide) rfl (fun ls hl => ?_)
            have hl := lv_sub hl [1, 0] (l' := [(0, .ref (ad 0)), (1, .int r4)]) rfl
            exact w91 σ5 r4 H locs ls h hP hD hS hl
          · have h := cdN hcd h
            refine lv_bipush (v := (-3)) hx hb dX11_name_65 (by decide) ?_
            exact ux_iret hx hb hr h hP hD hS hlocks dX11_name_67
      · have h := cdN hcd h
        refine lv_iconst (v := (-1)) hx hb dX11_name_23 (by decide) ?_
        exact ux_iret hx hb hr h hP hD hS hlocks dX11_name_24
  intro H locs ls h hP hD hS hl
  exact w0 σ H locs ls h hP hD hS (lv_sub hl [0] rfl)

set_option maxHeartbeats 4000000 in
set_option maxRecDepth 100000 in
theorem tX11_number (l : Launch) (dC : Nat → ClassId) (dI : Nat → Nat → Nat) (cy : Nat → ClassId) (ad : Nat → Nat) (τ nb : Nat) (hτ : τ < nb) (σ : S2) (a1 : Int32) (a2 : Int32) (sz : Nat) (r0 : Int32) (h : fX11_number τ σ a1 a2 = some r0) : Met l yX11_number wsX11_number ({ frames := 2, cells := 0, slots := 0, locals := 47 }) (va_Pc [.ref (ad 0), .int a1, .int a2] (wPre (dC, dI) cy (wG (cC cy ad τ) ad (182 + 6 * nb) σ) sz)) (va_Qi (fun (r : Int32) (_ : Unit) => r = r0) (fun (_ : Unit) t => wAt (dC, dI) (va_A (wG (cC cy ad τ) ad (182 + 6 * nb) σ) sz) (wG (cC cy ad τ) ad (182 + 6 * nb) σ) t) (va_A (wG (cC cy ad τ) ad (182 + 6 * nb) σ) sz)) 0 0 (va_A (wG (cC cy ad τ) ad (182 + 6 * nb) σ) sz) := by
  refine Met.ofW (cc := cX11_number) (maxL := 3) (ret := (some .int)) (by decide) rfl ?_
  intro p e s m args below meth c s₁ B hml hv
  obtain ⟨rfl, hsz, hP, hK, hD0, hN⟩ := hv
  have hx := B.exec
  have hb := B.bytes
  have hr := B.returns
  have hts := atoms_spec (ws := wsX11_number) B.pre
  have hown : s.vm.findClass RX11 = some m.cls := findClass_of_methodNamed B.named
  have hlocks := B.notSynchronized
  subst hsz
  have hD := hD0.self (sz := s.heap.size)
  generalize hAe : va_A (wG (cC cy ad τ) ad (182 + 6 * nb) σ) s.heap.size = A at hD ⊢
  have hA : ∀ q : Nat, s.heap.size ≤ q → A q := fun q h => by rw [← hAe]; exact Or.inr h
  have hS : va_S A s.heap s.heap [] := va_S.rf
  have hl := lv_entry ([.ref (ad 0), .int a1, .int a2]) (n := 3) (Nat.le_of_ble_eq_true rfl)
  rw [lg_entry_eq]
  generalize (lg_sl ([.ref (ad 0), .int a1, .int a2]) ++ List.replicate (3 - (lg_sl ([.ref (ad 0), .int a1, .int a2])).length) Slot.unset).toArray = ls at hl ⊢
  have hl : lv_has ls 3 [(0, .ref (ad 0)), (1, .int a1), (2, .int a2)] := hl
  unfold fX11_number at h
  clear hAe hD0
  suffices HH : ∀ (H : Heap) (locs : List Loc) (ls : Array Slot), fX11_number_0 τ σ a1 a2 = some r0 → va_P (dC, dI) vwCl (wG (cC cy ad τ) ad (182 + 6 * nb) σ) H → va_D A (wG (cC cy ad τ) ad (182 + 6 * nb) σ) → va_S A s.heap H locs → lv_has ls 3 [(0, .ref (ad 0)), (1, .int a1), (2, .int a2)] → W p l e (headSpec wsX11_number ({ frames := 2, cells := 0, slots := 0, locals := 47 })).room s m (#[.ref (ad 0), .int a1, .int a2]) below meth c H locs 0 0 (MQ below (va_Qi (fun (r : Int32) (_ : Unit) => r = r0) (fun (_ : Unit) t => wAt (dC, dI) A (wG (cC cy ad τ) ad (182 + 6 * nb) σ) t) A) (#[.ref (ad 0), .int a1, .int a2]) s 0 0 A) (F0 m 0 ls []) from HH s.heap [] ls h hP hD hS hl
  have w0 : ∀ (σ : S2) (x1 : Int32) (x2 : Int32) (H : Heap) (locs : List Loc) (ls : Array Slot), fX11_number_0 τ σ x1 x2 = some r0 → va_P (dC, dI) vwCl (wG (cC cy ad τ) ad (182 + 6 * nb) σ) H → va_D A (wG (cC cy ad τ) ad (182 + 6 * nb) σ) → va_S A s.heap H locs → lv_has ls 3 [(0, .ref (ad 0)), (1, .int x1), (2, .int x2)] → W p l e (headSpec wsX11_number ({ frames := 2, cells := 0, slots := 0, locals := 47 })).room s m (#[.ref (ad 0), .int a1, .int a2]) below meth c H locs 0 0 (MQ below (va_Qi (fun (r : Int32) (_ : Unit) => r = r0) (fun (_ : Unit) t => wAt (dC, dI) A (wG (cC cy ad τ) ad (182 + 6 * nb) σ) t) A) (#[.ref (ad 0), .int a1, .int a2]) s 0 0 A) (F0 m 0 ls []) := by
    intro σ x1 x2 H locs ls h hP hD hS hl
    unfold fX11_number_0 at h
    refine lv_aload_n hx hb dX11_number_0 rfl (lv_at hl 0 rfl) ?_
    refine ux_get (D := (dC, dI)) (ci := 11) (v := .ref (ad 3)) (C := RX11) (T := TX11) (M := 13) (fs := (oSR ad (σ.1 0))) hx hb hts (fun _ h9 => List.mem_cons_of_mem _ (List.mem_append_left _ (List.mem_append_right _ h9))) hown hK hP 0 (Nat.lt_of_lt_of_le (Nat.le_of_ble_eq_true rfl : 0 < 182) (Nat.le_add_right _ _)) (cC_0 _ _ _ _ _) rfl 1 (by decide) (hts (.fieldLink RX11 19 "SeatsRound" "nameList" "LSeatsRound$NameList;") (List.mem_of_getElem? (i := 1) rfl)) (fun _ h9 => h9) rfl dX11_number_1 ?_
    refine lv_iload_n hx hb dX11_number_4 rfl (lv_at hl 1 rfl) ?_
    obtain ⟨r1, hf2, h⟩ := biS h
    refine ux_calli (va_runV (As := [.int x1]) (rest := []) ⟨hx, hb, hml, hown, hts⟩ (tX4_has l dC dI cy ad τ nb hτ σ x1 H.size r1 hf2) (cwV 1 hts gX11_number_X4_has rfl rfl rfl (by decide +kernel) ⟨Nat.le_of_ble_eq_true rfl, Nat.le_of_ble_eq_true rfl⟩) (wp_V hK hN hP hD (va_recv hK hP (ci := 4) (q0 := 3) rfl (wG_of (Nat.lt_of_lt_of_le (Nat.le_of_ble_eq_true rfl : 3 < 182) (Nat.le_add_right _ _)) (cC_3 _ _ _ _ _)))) rfl rfl hl.1 rfl (lv_room (Nat.le_of_ble_eq_true rfl)) dX11_number_5 ⟨Nat.le_of_ble_eq_true rfl, Nat.le_of_ble_eq_true rfl⟩) hD hS hA (fun H locs hP hD hS => ?_)
    refine lv_if_ne (tgt := 13) hx hb dX11_number_8 (by decide) (fun hcd => ?_) (fun hcd => ?_)
    · have h := cdN hcd h
      refine lv_aload_n hx hb dX11_number_13 rfl (lv_at hl 0 rfl) ?_
      refine ux_get (D := (dC, dI)) (ci := 11) (v := .ref (ad 3)) (C := RX11) (T := TX11) (M := 13) (fs := (oSR ad (σ.1 0))) hx hb hts (fun _ h9 => List.mem_cons_of_mem _ (List.mem_append_left _ (List.mem_append_right _ h9))) hown hK hP 0 (Nat.lt_of_lt_of_le (Nat.le_of_ble_eq_true rfl : 0 < 182) (Nat.le_add_right _ _)) (cC_0 _ _ _ _ _) rfl 1 (by decide) (hts (.fieldLink RX11 19 "SeatsRound" "nameList" "LSeatsRound$NameList;") (List.mem_of_getElem? (i := 1) rfl)) (fun _ h9 => h9) rfl dX11_number_14 ?_
      refine lv_iload_n hx hb dX11_number_17 rfl (lv_at hl 1 rfl) ?_
      refine lv_iload_n hx hb dX11_number_18 rfl (lv_at hl 2 rfl) ?_
      obtain ⟨r3, hf4, h⟩ := biS h
      refine ux_calli (va_runV (As := [.int x1, .int x2]) (rest := []) ⟨hx, hb, hml, hown, hts⟩ (tX4_placeOf l dC dI cy ad τ nb hτ σ x1 x2 H.size r3 hf4) (cwV 2 hts gX11_number_X4_placeOf rfl rfl rfl (by decide +kernel) ⟨Nat.le_of_ble_eq_true rfl, Nat.le_of_ble_eq_true rfl⟩) (wp_V hK hN hP hD (va_recv hK hP (ci := 4) (q0 := 3) rfl (wG_of (Nat.lt_of_lt_of_le (Nat.le_of_ble_eq_true rfl : 3 < 182) (Nat.le_add_right _ _)) (cC_3 _ _ _ _ _)))) rfl rfl hl.1 rfl (lv_room (Nat.le_of_ble_eq_true rfl)) dX11_number_19 ⟨Nat.le_of_ble_eq_true rfl, Nat.le_of_ble_eq_true rfl⟩) hD hS hA (fun H locs hP hD hS => ?_)
      exact ux_iretP hx hb hr h hP hD hS hlocks dX11_number_22
    · have h := cdP hcd h
      refine lv_iconst (v := (-1)) hx hb dX11_number_11 (by decide) ?_
      exact ux_iretP hx hb hr h hP hD hS hlocks dX11_number_12
  intro H locs ls h hP hD hS hl
  exact w0 σ a1 a2 H locs ls h hP hD hS (lv_sub hl [0, 1, 2] rfl)

set_option maxHeartbeats 4000000 in
set_option maxRecDepth 100000 in
theorem tX11_isStrength (l : Launch) (dC : Nat → ClassId) (dI : Nat → Nat → Nat) (cy : Nat → ClassId) (ad : Nat → Nat) (τ nb : Nat) (hτ : τ < nb) (σ : S2) (a0 : Int32) (sz : Nat) (r0 : Int32) (h : fX11_isStrength τ σ a0 = some r0) : Met l yX11_isStrength wsX11_isStrength ({ frames := 1, cells := 0, slots := 0, locals := 23 }) (va_Pc [.int a0] (wPre (dC, dI) cy (wG (cC cy ad τ) ad (182 + 6 * nb) σ) sz)) (va_Qi (fun (r : Int32) (_ : Unit) => r = r0) (fun (_ : Unit) t => wAt (dC, dI) (va_A (wG (cC cy ad τ) ad (182 + 6 * nb) σ) sz) (wG (cC cy ad τ) ad (182 + 6 * nb) σ) t) (va_A (wG (cC cy ad τ) ad (182 + 6 * nb) σ) sz)) 0 0 (va_A (wG (cC cy ad τ) ad (182 + 6 * nb) σ) sz) := by
  refine Met.ofW (cc := cX11_isStrength) (maxL := 1) (ret := (some .boolean)) (by decide) rfl ?_
  intro p e s m args below meth c s₁ B hml hv
  obtain ⟨rfl, hsz, hP, hK, hD0, hN⟩ := hv
  have hx := B.exec
  have hb := B.bytes
  have hr := B.returns
  have hts := atoms_spec (ws := wsX11_isStrength) B.pre
  have hown : s.vm.findClass RX11 = some m.cls := findClass_of_methodNamed B.named
  have hlocks := B.notSynchronized
  subst hsz
  have hD := hD0.self (sz := s.heap.size)
  generalize hAe : va_A (wG (cC cy ad τ) ad (182 + 6 * nb) σ) s.heap.size = A at hD ⊢
  have hA : ∀ q : Nat, s.heap.size ≤ q → A q := fun q h => by rw [← hAe]; exact Or.inr h
  have hS : va_S A s.heap s.heap [] := va_S.rf
  have hl := lv_entry ([.int a0]) (n := 1) (Nat.le_of_ble_eq_true rfl)
  rw [lg_entry_eq]
  generalize (lg_sl ([.int a0]) ++ List.replicate (1 - (lg_sl ([.int a0])).length) Slot.unset).toArray = ls at hl ⊢
  have hl : lv_has ls 1 [(0, .int a0)] := hl
  unfold fX11_isStrength at h
  clear hAe hD0
  suffices HH : ∀ (H : Heap) (locs : List Loc) (ls : Array Slot), fX11_isStrength_0 τ σ a0 = some r0 → va_P (dC, dI) vwCl (wG (cC cy ad τ) ad (182 + 6 * nb) σ) H → va_D A (wG (cC cy ad τ) ad (182 + 6 * nb) σ) → va_S A s.heap H locs → lv_has ls 1 [(0, .int a0)] → W p l e (headSpec wsX11_isStrength ({ frames := 1, cells := 0, slots := 0, locals := 23 })).room s m (#[.int a0]) below meth c H locs 0 0 (MQ below (va_Qi (fun (r : Int32) (_ : Unit) => r = r0) (fun (_ : Unit) t => wAt (dC, dI) A (wG (cC cy ad τ) ad (182 + 6 * nb) σ) t) A) (#[.int a0]) s 0 0 A) (F0 m 0 ls []) from HH s.heap [] ls h hP hD hS hl
  have w0 : ∀ (σ : S2) (x0 : Int32) (H : Heap) (locs : List Loc) (ls : Array Slot), fX11_isStrength_0 τ σ x0 = some r0 → va_P (dC, dI) vwCl (wG (cC cy ad τ) ad (182 + 6 * nb) σ) H → va_D A (wG (cC cy ad τ) ad (182 + 6 * nb) σ) → va_S A s.heap H locs → lv_has ls 1 [(0, .int x0)] → W p l e (headSpec wsX11_isStrength ({ frames := 1, cells := 0, slots := 0, locals := 23 })).room s m (#[.int a0]) below meth c H locs 0 0 (MQ below (va_Qi (fun (r : Int32) (_ : Unit) => r = r0) (fun (_ : Unit) t => wAt (dC, dI) A (wG (cC cy ad τ) ad (182 + 6 * nb) σ) t) A) (#[.int a0]) s 0 0 A) (F0 m 0 ls []) := by
    intro σ x0 H locs ls h hP hD hS hl
    unfold fX11_isStrength_0 at h
    refine lv_iload_n hx hb dX11_isStrength_0 rfl (lv_at hl 0 rfl) ?_
    refine lv_iconst (v := 1) hx hb dX11_isStrength_1 (by decide) ?_
    refine lv_icmp_lt (tgt := 15) hx hb dX11_isStrength_2 (by decide) (fun hcd => ?_) (fun hcd => ?_)
    · have h := cdP hcd h
      refine lv_iconst (v := 0) hx hb dX11_isStrength_15 (by decide) ?_
      exact ux_zretP hx hb hr rfl h hP hD hS hlocks dX11_isStrength_16
    · have h := cdN hcd h
      refine lv_iload_n hx hb dX11_isStrength_5 rfl (lv_at hl 0 rfl) ?_
      refine lv_bipush (v := 8) hx hb dX11_isStrength_6 (by decide) ?_
      refine lv_icmp_gt (tgt := 15) hx hb dX11_isStrength_8 (by decide) (fun hcd => ?_) (fun hcd => ?_)
      · have h := cdP hcd h
        refine lv_iconst (v := 0) hx hb dX11_isStrength_15 (by decide) ?_
        exact ux_zretP hx hb hr rfl h hP hD hS hlocks dX11_isStrength_16
      · have h := cdN hcd h
        refine lv_iconst (v := 1) hx hb dX11_isStrength_11 (by decide) ?_
        refine lv_goto (tgt := 16) hx hb dX11_isStrength_12 (by decide) ?_
        exact ux_zretP hx hb hr rfl h hP hD hS hlocks dX11_isStrength_16
  intro H locs ls h hP hD hS hl
  exact w0 σ a0 H locs ls h hP hD hS (lv_sub hl [0] rfl)

set_option maxHeartbeats 4000000 in
set_option maxRecDepth 100000 in
theorem tX11_keeper (l : Launch) (dC : Nat → ClassId) (dI : Nat → Nat → Nat) (cy : Nat → ClassId) (ad : Nat → Nat) (τ nb : Nat) (hτ : τ < nb) (σ : S2) (a1 : Int32) (a2 : Int32) (sz : Nat) (r0 : Int32) (σ9 : S2) (h : fX11_keeper τ σ a1 a2 = some (r0, σ9)) : Met l yX11_keeper wsX11_keeper ({ frames := 2, cells := 0, slots := 0, locals := 45 }) (va_Pc [.ref (ad 0), .int a1, .int a2] (wPre (dC, dI) cy (wG (cC cy ad τ) ad (182 + 6 * nb) σ) sz)) (va_Qi (fun (r : Int32) (_ : Unit) => r = r0) (fun (_ : Unit) t => wAt (dC, dI) (va_A (wG (cC cy ad τ) ad (182 + 6 * nb) σ) sz) (wG (cC cy ad τ) ad (182 + 6 * nb) σ9) t) (va_A (wG (cC cy ad τ) ad (182 + 6 * nb) σ) sz)) 0 0 (va_A (wG (cC cy ad τ) ad (182 + 6 * nb) σ) sz) := by
  refine Met.ofW (cc := cX11_keeper) (maxL := 3) (ret := (some .int)) (by decide) rfl ?_
  intro p e s m args below meth c s₁ B hml hv
  obtain ⟨rfl, hsz, hP, hK, hD0, hN⟩ := hv
  have hx := B.exec
  have hb := B.bytes
  have hr := B.returns
  have hts := atoms_spec (ws := wsX11_keeper) B.pre
  have hown : s.vm.findClass RX11 = some m.cls := findClass_of_methodNamed B.named
  have hlocks := B.notSynchronized
  subst hsz
  have hD := hD0.self (sz := s.heap.size)
  generalize hAe : va_A (wG (cC cy ad τ) ad (182 + 6 * nb) σ) s.heap.size = A at hD ⊢
  have hA : ∀ q : Nat, s.heap.size ≤ q → A q := fun q h => by rw [← hAe]; exact Or.inr h
  have hS : va_S A s.heap s.heap [] := va_S.rf
  have hl := lv_entry ([.ref (ad 0), .int a1, .int a2]) (n := 3) (Nat.le_of_ble_eq_true rfl)
  rw [lg_entry_eq]
  generalize (lg_sl ([.ref (ad 0), .int a1, .int a2]) ++ List.replicate (3 - (lg_sl ([.ref (ad 0), .int a1, .int a2])).length) Slot.unset).toArray = ls at hl ⊢
  have hl : lv_has ls 3 [(0, .ref (ad 0)), (1, .int a1), (2, .int a2)] := hl
  unfold fX11_keeper at h
  clear hAe hD0
  suffices HH : ∀ (H : Heap) (locs : List Loc) (ls : Array Slot), fX11_keeper_0 τ σ a1 a2 = some (r0, σ9) → va_P (dC, dI) vwCl (wG (cC cy ad τ) ad (182 + 6 * nb) σ) H → va_D A (wG (cC cy ad τ) ad (182 + 6 * nb) σ) → va_S A s.heap H locs → lv_has ls 3 [(0, .ref (ad 0)), (1, .int a1), (2, .int a2)] → W p l e (headSpec wsX11_keeper ({ frames := 2, cells := 0, slots := 0, locals := 45 })).room s m (#[.ref (ad 0), .int a1, .int a2]) below meth c H locs 0 0 (MQ below (va_Qi (fun (r : Int32) (_ : Unit) => r = r0) (fun (_ : Unit) t => wAt (dC, dI) A (wG (cC cy ad τ) ad (182 + 6 * nb) σ9) t) A) (#[.ref (ad 0), .int a1, .int a2]) s 0 0 A) (F0 m 0 ls []) from HH s.heap [] ls h hP hD hS hl
  have w0 : ∀ (σ : S2) (x1 : Int32) (x2 : Int32) (H : Heap) (locs : List Loc) (ls : Array Slot), fX11_keeper_0 τ σ x1 x2 = some (r0, σ9) → va_P (dC, dI) vwCl (wG (cC cy ad τ) ad (182 + 6 * nb) σ) H → va_D A (wG (cC cy ad τ) ad (182 + 6 * nb) σ) → va_S A s.heap H locs → lv_has ls 3 [(0, .ref (ad 0)), (1, .int x1), (2, .int x2)] → W p l e (headSpec wsX11_keeper ({ frames := 2, cells := 0, slots := 0, locals := 45 })).room s m (#[.ref (ad 0), .int a1, .int a2]) below meth c H locs 0 0 (MQ below (va_Qi (fun (r : Int32) (_ : Unit) => r = r0) (fun (_ : Unit) t => wAt (dC, dI) A (wG (cC cy ad τ) ad (182 + 6 * nb) σ9) t) A) (#[.ref (ad 0), .int a1, .int a2]) s 0 0 A) (F0 m 0 ls []) := by
    intro σ x1 x2 H locs ls h hP hD hS hl
    unfold fX11_keeper_0 at h
    refine lv_iload_n hx hb dX11_keeper_0 rfl (lv_at hl 1 rfl) ?_
    refine lv_if_lt (tgt := 16) hx hb dX11_keeper_1 (by decide) (fun hcd => ?_) (fun hcd => ?_)
    · have h := cdP hcd h
      refine lv_iconst (v := (-1)) hx hb dX11_keeper_16 (by decide) ?_
      exact ux_iret hx hb hr h hP hD hS hlocks dX11_keeper_17
    · have h := cdN hcd h
      refine lv_iload_n hx hb dX11_keeper_4 rfl (lv_at hl 1 rfl) ?_
      refine lv_iconst (v := 5) hx hb dX11_keeper_5 (by decide) ?_
      refine lv_icmp_gt (tgt := 16) hx hb dX11_keeper_6 (by decide) (fun hcd => ?_) (fun hcd => ?_)
      · have h := cdP hcd h
        refine lv_iconst (v := (-1)) hx hb dX11_keeper_16 (by decide) ?_
        exact ux_iret hx hb hr h hP hD hS hlocks dX11_keeper_17
      · have h := cdN hcd h
        refine lv_iload_n hx hb dX11_keeper_9 rfl (lv_at hl 2 rfl) ?_
        obtain ⟨r1, hf2, h⟩ := biS h
        refine ux_calli (va_runS (As := [.int x2]) (rest := []) ⟨hx, hb, hml, hown, hts⟩ (tX11_isStrength l dC dI cy ad τ nb hτ σ x2 H.size r1 hf2) (va_cwS 1 hts gX11_keeper_X11_isStrength rfl rfl rfl (by decide +kernel) ⟨Nat.le_of_ble_eq_true rfl, Nat.le_of_ble_eq_true rfl⟩) (wp_S hK hN hP hD) rfl rfl hl.1 rfl (lv_room (Nat.le_of_ble_eq_true rfl)) dX11_keeper_10 ⟨Nat.le_of_ble_eq_true rfl, Nat.le_of_ble_eq_true rfl⟩) hD hS hA (fun H locs hP hD hS => ?_)
        refine lv_if_ne (tgt := 18) hx hb dX11_keeper_13 (by decide) (fun hcd => ?_) (fun hcd => ?_)
        · have h := cdN hcd h
          refine lv_aload_n hx hb dX11_keeper_18 rfl (lv_at hl 0 rfl) ?_
          refine ux_get (D := (dC, dI)) (ci := 11) (v := .ref (ad 7)) (C := RX11) (T := TX11) (M := 13) (fs := (oSR ad (σ.1 0))) hx hb hts (fun _ h9 => List.mem_cons_of_mem _ (List.mem_append_left _ (List.mem_append_right _ h9))) hown hK hP 0 (Nat.lt_of_lt_of_le (Nat.le_of_ble_eq_true rfl : 0 < 182) (Nat.le_add_right _ _)) (cC_0 _ _ _ _ _) rfl 2 (by decide) (hts (.fieldLink RX11 26 "SeatsRound" "keepers" "LSeatsRound$Keepers;") (List.mem_of_getElem? (i := 1) rfl)) (fun _ h9 => h9) rfl dX11_keeper_19 ?_
          refine ux_get (D := (dC, dI)) (ci := 2) (v := .int (σ.1 7 5)) (C := RX2) (T := TX2) (M := 6) (fs := (oKP ad (σ.1 7))) hx hb hts (fun _ h9 => List.mem_cons_of_mem _ (List.mem_append_right _ h9)) hown hK hP 7 (Nat.lt_of_lt_of_le (Nat.le_of_ble_eq_true rfl : 7 < 182) (Nat.le_add_right _ _)) (cC_7 _ _ _ _ _) rfl 5 (by decide) (hts (.fieldLink RX11 134 "SeatsRound$Keepers" "count" "I") (List.mem_of_getElem? (i := 2) rfl)) (fun _ h9 => h9) rfl dX11_keeper_22 ?_
          refine lv_bipush (v := 12) hx hb dX11_keeper_25 (by decide) ?_
          refine lv_icmp_lt (tgt := 33) hx hb dX11_keeper_27 (by decide) (fun hcd => ?_) (fun hcd => ?_)
          · have h := cdP hcd h
            refine lv_aload_n hx hb dX11_keeper_33 rfl (lv_at hl 0 rfl) ?_
            refine ux_get (D := (dC, dI)) (ci := 11) (v := .ref (ad 7)) (C := RX11) (T := TX11) (M := 13) (fs := (oSR ad (σ.1 0))) hx hb hts (fun _ h9 => List.mem_cons_of_mem _ (List.mem_append_left _ (List.mem_append_right _ h9))) hown hK hP 0 (Nat.lt_of_lt_of_le (Nat.le_of_ble_eq_true rfl : 0 < 182) (Nat.le_add_right _ _)) (cC_0 _ _ _ _ _) rfl 2 (by decide) (hts (.fieldLink RX11 26 "SeatsRound" "keepers" "LSeatsRound$Keepers;") (List.mem_of_getElem? (i := 1) rfl)) (fun _ h9 => h9) rfl dX11_keeper_34 ?_
            refine lv_iload_n hx hb dX11_keeper_37 rfl (lv_at hl 1 rfl) ?_
            refine lv_iload_n hx hb dX11_keeper_38 rfl (lv_at hl 2 rfl) ?_
            obtain ⟨r3, σ4, hf5, h⟩ := bsS h
            refine ux_calli (va_runV (As := [.int x1, .int x2]) (rest := []) ⟨hx, hb, hml, hown, hts⟩ (tX2_add l dC dI cy ad τ nb hτ σ x1 x2 H.size r3 σ4 hf5) (cwV 2 hts gX11_keeper_X2_add rfl rfl rfl (by decide +kernel) ⟨Nat.le_of_ble_eq_true rfl, Nat.le_of_ble_eq_true rfl⟩) (wp_V hK hN hP hD (va_recv hK hP (ci := 2) (q0 := 7) rfl (wG_of (Nat.lt_of_lt_of_le (Nat.le_of_ble_eq_true rfl : 7 < 182) (Nat.le_add_right _ _)) (cC_7 _ _ _ _ _)))) rfl rfl hl.1 rfl (lv_room (Nat.le_of_ble_eq_true rfl)) dX11_keeper_39 ⟨Nat.le_of_ble_eq_true rfl, Nat.le_of_ble_eq_true rfl⟩) hD hS hA (fun H locs hP hD hS => ?_)
            exact ux_iret hx hb hr h hP hD hS hlocks dX11_keeper_42
          · have h := cdN hcd h
            refine lv_bipush (v := (-3)) hx hb dX11_keeper_30 (by decide) ?_
            exact ux_iret hx hb hr h hP hD hS hlocks dX11_keeper_32
        · have h := cdP hcd h
          refine lv_iconst (v := (-1)) hx hb dX11_keeper_16 (by decide) ?_
          exact ux_iret hx hb hr h hP hD hS hlocks dX11_keeper_17
  intro H locs ls h hP hD hS hl
  exact w0 σ a1 a2 H locs ls h hP hD hS (lv_sub hl [0, 1, 2] rfl)

set_option maxHeartbeats 4000000 in
set_option maxRecDepth 100000 in
theorem tX11_isKind (l : Launch) (dC : Nat → ClassId) (dI : Nat → Nat → Nat) (cy : Nat → ClassId) (ad : Nat → Nat) (τ nb : Nat) (hτ : τ < nb) (σ : S2) (a0 : Int32) (sz : Nat) (r0 : Int32) (h : fX11_isKind τ σ a0 = some r0) : Met l yX11_isKind wsX11_isKind ({ frames := 1, cells := 0, slots := 0, locals := 23 }) (va_Pc [.int a0] (wPre (dC, dI) cy (wG (cC cy ad τ) ad (182 + 6 * nb) σ) sz)) (va_Qi (fun (r : Int32) (_ : Unit) => r = r0) (fun (_ : Unit) t => wAt (dC, dI) (va_A (wG (cC cy ad τ) ad (182 + 6 * nb) σ) sz) (wG (cC cy ad τ) ad (182 + 6 * nb) σ) t) (va_A (wG (cC cy ad τ) ad (182 + 6 * nb) σ) sz)) 0 0 (va_A (wG (cC cy ad τ) ad (182 + 6 * nb) σ) sz) := by
  refine Met.ofW (cc := cX11_isKind) (maxL := 1) (ret := (some .boolean)) (by decide) rfl ?_
  intro p e s m args below meth c s₁ B hml hv
  obtain ⟨rfl, hsz, hP, hK, hD0, hN⟩ := hv
  have hx := B.exec
  have hb := B.bytes
  have hr := B.returns
  have hts := atoms_spec (ws := wsX11_isKind) B.pre
  have hown : s.vm.findClass RX11 = some m.cls := findClass_of_methodNamed B.named
  have hlocks := B.notSynchronized
  subst hsz
  have hD := hD0.self (sz := s.heap.size)
  generalize hAe : va_A (wG (cC cy ad τ) ad (182 + 6 * nb) σ) s.heap.size = A at hD ⊢
  have hA : ∀ q : Nat, s.heap.size ≤ q → A q := fun q h => by rw [← hAe]; exact Or.inr h
  have hS : va_S A s.heap s.heap [] := va_S.rf
  have hl := lv_entry ([.int a0]) (n := 1) (Nat.le_of_ble_eq_true rfl)
  rw [lg_entry_eq]
  generalize (lg_sl ([.int a0]) ++ List.replicate (1 - (lg_sl ([.int a0])).length) Slot.unset).toArray = ls at hl ⊢
  have hl : lv_has ls 1 [(0, .int a0)] := hl
  unfold fX11_isKind at h
  clear hAe hD0
  suffices HH : ∀ (H : Heap) (locs : List Loc) (ls : Array Slot), fX11_isKind_0 τ σ a0 = some r0 → va_P (dC, dI) vwCl (wG (cC cy ad τ) ad (182 + 6 * nb) σ) H → va_D A (wG (cC cy ad τ) ad (182 + 6 * nb) σ) → va_S A s.heap H locs → lv_has ls 1 [(0, .int a0)] → W p l e (headSpec wsX11_isKind ({ frames := 1, cells := 0, slots := 0, locals := 23 })).room s m (#[.int a0]) below meth c H locs 0 0 (MQ below (va_Qi (fun (r : Int32) (_ : Unit) => r = r0) (fun (_ : Unit) t => wAt (dC, dI) A (wG (cC cy ad τ) ad (182 + 6 * nb) σ) t) A) (#[.int a0]) s 0 0 A) (F0 m 0 ls []) from HH s.heap [] ls h hP hD hS hl
  have w0 : ∀ (σ : S2) (x0 : Int32) (H : Heap) (locs : List Loc) (ls : Array Slot), fX11_isKind_0 τ σ x0 = some r0 → va_P (dC, dI) vwCl (wG (cC cy ad τ) ad (182 + 6 * nb) σ) H → va_D A (wG (cC cy ad τ) ad (182 + 6 * nb) σ) → va_S A s.heap H locs → lv_has ls 1 [(0, .int x0)] → W p l e (headSpec wsX11_isKind ({ frames := 1, cells := 0, slots := 0, locals := 23 })).room s m (#[.int a0]) below meth c H locs 0 0 (MQ below (va_Qi (fun (r : Int32) (_ : Unit) => r = r0) (fun (_ : Unit) t => wAt (dC, dI) A (wG (cC cy ad τ) ad (182 + 6 * nb) σ) t) A) (#[.int a0]) s 0 0 A) (F0 m 0 ls []) := by
    intro σ x0 H locs ls h hP hD hS hl
    unfold fX11_isKind_0 at h
    refine lv_iload_n hx hb dX11_isKind_0 rfl (lv_at hl 0 rfl) ?_
    refine lv_if_lt (tgt := 14) hx hb dX11_isKind_1 (by decide) (fun hcd => ?_) (fun hcd => ?_)
    · have h := cdP hcd h
      refine lv_iconst (v := 0) hx hb dX11_isKind_14 (by decide) ?_
      exact ux_zretP hx hb hr rfl h hP hD hS hlocks dX11_isKind_15
    · have h := cdN hcd h
      refine lv_iload_n hx hb dX11_isKind_4 rfl (lv_at hl 0 rfl) ?_
      refine lv_bipush (v := 6) hx hb dX11_isKind_5 (by decide) ?_
      refine lv_icmp_gt (tgt := 14) hx hb dX11_isKind_7 (by decide) (fun hcd => ?_) (fun hcd => ?_)
      · have h := cdP hcd h
        refine lv_iconst (v := 0) hx hb dX11_isKind_14 (by decide) ?_
        exact ux_zretP hx hb hr rfl h hP hD hS hlocks dX11_isKind_15
      · have h := cdN hcd h
        refine lv_iconst (v := 1) hx hb dX11_isKind_10 (by decide) ?_
        refine lv_goto (tgt := 15) hx hb dX11_isKind_11 (by decide) ?_
        exact ux_zretP hx hb hr rfl h hP hD hS hlocks dX11_isKind_15
  intro H locs ls h hP hD hS hl
  exact w0 σ a0 H locs ls h hP hD hS (lv_sub hl [0] rfl)

set_option maxHeartbeats 4000000 in
set_option maxRecDepth 100000 in
theorem tX11_become (l : Launch) (dC : Nat → ClassId) (dI : Nat → Nat → Nat) (cy : Nat → ClassId) (ad : Nat → Nat) (τ nb : Nat) (hτ : τ < nb) (σ : S2) (a1 : Int32) (a2 : Int32) (sz : Nat) (r0 : Int32) (σ9 : S2) (h : fX11_become τ σ a1 a2 = some (r0, σ9)) : Met l yX11_become wsX11_become ({ frames := 3, cells := 0, slots := 0, locals := 69 }) (va_Pc [.ref (ad 0), .int a1, .int a2] (wPre (dC, dI) cy (wG (cC cy ad τ) ad (182 + 6 * nb) σ) sz)) (va_Qi (fun (r : Int32) (_ : Unit) => r = r0) (fun (_ : Unit) t => wAt (dC, dI) (va_A (wG (cC cy ad τ) ad (182 + 6 * nb) σ) sz) (wG (cC cy ad τ) ad (182 + 6 * nb) σ9) t) (va_A (wG (cC cy ad τ) ad (182 + 6 * nb) σ) sz)) 0 0 (va_A (wG (cC cy ad τ) ad (182 + 6 * nb) σ) sz) := by
  refine Met.ofW (cc := cX11_become) (maxL := 4) (ret := (some .int)) (by decide) rfl ?_
  intro p e s m args below meth c s₁ B hml hv
  obtain ⟨rfl, hsz, hP, hK, hD0, hN⟩ := hv
  have hx := B.exec
  have hb := B.bytes
  have hr := B.returns
  have hts := atoms_spec (ws := wsX11_become) B.pre
  have hown : s.vm.findClass RX11 = some m.cls := findClass_of_methodNamed B.named
  have hlocks := B.notSynchronized
  subst hsz
  have hD := hD0.self (sz := s.heap.size)
  generalize hAe : va_A (wG (cC cy ad τ) ad (182 + 6 * nb) σ) s.heap.size = A at hD ⊢
  have hA : ∀ q : Nat, s.heap.size ≤ q → A q := fun q h => by rw [← hAe]; exact Or.inr h
  have hS : va_S A s.heap s.heap [] := va_S.rf
  have hl := lv_entry ([.ref (ad 0), .int a1, .int a2]) (n := 4) (Nat.le_of_ble_eq_true rfl)
  rw [lg_entry_eq]
  generalize (lg_sl ([.ref (ad 0), .int a1, .int a2]) ++ List.replicate (4 - (lg_sl ([.ref (ad 0), .int a1, .int a2])).length) Slot.unset).toArray = ls at hl ⊢
  have hl : lv_has ls 4 [(0, .ref (ad 0)), (1, .int a1), (2, .int a2)] := hl
  unfold fX11_become at h
  clear hAe hD0
  suffices HH : ∀ (H : Heap) (locs : List Loc) (ls : Array Slot), fX11_become_0 τ σ a1 a2 = some (r0, σ9) → va_P (dC, dI) vwCl (wG (cC cy ad τ) ad (182 + 6 * nb) σ) H → va_D A (wG (cC cy ad τ) ad (182 + 6 * nb) σ) → va_S A s.heap H locs → lv_has ls 4 [(0, .ref (ad 0)), (1, .int a1), (2, .int a2)] → W p l e (headSpec wsX11_become ({ frames := 3, cells := 0, slots := 0, locals := 69 })).room s m (#[.ref (ad 0), .int a1, .int a2]) below meth c H locs 0 0 (MQ below (va_Qi (fun (r : Int32) (_ : Unit) => r = r0) (fun (_ : Unit) t => wAt (dC, dI) A (wG (cC cy ad τ) ad (182 + 6 * nb) σ9) t) A) (#[.ref (ad 0), .int a1, .int a2]) s 0 0 A) (F0 m 0 ls []) from HH s.heap [] ls h hP hD hS hl
  have w0 : ∀ (σ : S2) (x1 : Int32) (x2 : Int32) (H : Heap) (locs : List Loc) (ls : Array Slot), fX11_become_0 τ σ x1 x2 = some (r0, σ9) → va_P (dC, dI) vwCl (wG (cC cy ad τ) ad (182 + 6 * nb) σ) H → va_D A (wG (cC cy ad τ) ad (182 + 6 * nb) σ) → va_S A s.heap H locs → lv_has ls 4 [(0, .ref (ad 0)), (1, .int x1), (2, .int x2)] → W p l e (headSpec wsX11_become ({ frames := 3, cells := 0, slots := 0, locals := 69 })).room s m (#[.ref (ad 0), .int a1, .int a2]) below meth c H locs 0 0 (MQ below (va_Qi (fun (r : Int32) (_ : Unit) => r = r0) (fun (_ : Unit) t => wAt (dC, dI) A (wG (cC cy ad τ) ad (182 + 6 * nb) σ9) t) A) (#[.ref (ad 0), .int a1, .int a2]) s 0 0 A) (F0 m 0 ls []) := by
    intro σ x1 x2 H locs ls h hP hD hS hl
    unfold fX11_become_0 at h
    refine lv_aload_n hx hb dX11_become_0 rfl (lv_at hl 0 rfl) ?_
    refine ux_get (D := (dC, dI)) (ci := 11) (v := .ref (ad 7)) (C := RX11) (T := TX11) (M := 13) (fs := (oSR ad (σ.1 0))) hx hb hts (fun _ h9 => List.mem_cons_of_mem _ (List.mem_append_left _ (List.mem_append_left _ (List.mem_append_left _ (List.mem_append_right _ h9))))) hown hK hP 0 (Nat.lt_of_lt_of_le (Nat.le_of_ble_eq_true rfl : 0 < 182) (Nat.le_add_right _ _)) (cC_0 _ _ _ _ _) rfl 2 (by decide) (hts (.fieldLink RX11 26 "SeatsRound" "keepers" "LSeatsRound$Keepers;") (List.mem_of_getElem? (i := 1) rfl)) (fun _ h9 => h9) rfl dX11_become_1 ?_
    refine lv_iload_n hx hb dX11_become_4 rfl (lv_at hl 1 rfl) ?_
    obtain ⟨r1, hf2, h⟩ := biS h
    refine ux_calli (va_runV (As := [.int x1]) (rest := []) ⟨hx, hb, hml, hown, hts⟩ (tX2_has l dC dI cy ad τ nb hτ σ x1 H.size r1 hf2) (cwV 1 hts gX11_become_X2_has rfl rfl rfl (by decide +kernel) ⟨Nat.le_of_ble_eq_true rfl, Nat.le_of_ble_eq_true rfl⟩) (wp_V hK hN hP hD (va_recv hK hP (ci := 2) (q0 := 7) rfl (wG_of (Nat.lt_of_lt_of_le (Nat.le_of_ble_eq_true rfl : 7 < 182) (Nat.le_add_right _ _)) (cC_7 _ _ _ _ _)))) rfl rfl hl.1 rfl (lv_room (Nat.le_of_ble_eq_true rfl)) dX11_become_5 ⟨Nat.le_of_ble_eq_true rfl, Nat.le_of_ble_eq_true rfl⟩) hD hS hA (fun H locs hP hD hS => ?_)
    refine lv_if_eq (tgt := 18) hx hb dX11_become_8 (by decide) (fun hcd => ?_) (fun hcd => ?_)
    · have h := cdP hcd h
      refine lv_iconst (v := (-1)) hx hb dX11_become_18 (by decide) ?_
      exact ux_iret hx hb hr h hP hD hS hlocks dX11_become_19
    · have h := cdN hcd h
      refine lv_iload_n hx hb dX11_become_11 rfl (lv_at hl 2 rfl) ?_
      obtain ⟨r3, hf4, h⟩ := biS h
      refine ux_calli (va_runS (As := [.int x2]) (rest := []) ⟨hx, hb, hml, hown, hts⟩ (tX11_isKind l dC dI cy ad τ nb hτ σ x2 H.size r3 hf4) (va_cwS 1 hts gX11_become_X11_isKind rfl rfl rfl (by decide +kernel) ⟨Nat.le_of_ble_eq_true rfl, Nat.le_of_ble_eq_true rfl⟩) (wp_S hK hN hP hD) rfl rfl hl.1 rfl (lv_room (Nat.le_of_ble_eq_true rfl)) dX11_become_12 ⟨Nat.le_of_ble_eq_true rfl, Nat.le_of_ble_eq_true rfl⟩) hD hS hA (fun H locs hP hD hS => ?_)
      refine lv_if_ne (tgt := 20) hx hb dX11_become_15 (by decide) (fun hcd => ?_) (fun hcd => ?_)
      · have h := cdN hcd h
        refine lv_aload_n hx hb dX11_become_20 rfl (lv_at hl 0 rfl) ?_
        refine ux_get (D := (dC, dI)) (ci := 11) (v := .ref (ad 7)) (C := RX11) (T := TX11) (M := 13) (fs := (oSR ad (σ.1 0))) hx hb hts (fun _ h9 => List.mem_cons_of_mem _ (List.mem_append_left _ (List.mem_append_left _ (List.mem_append_left _ (List.mem_append_right _ h9))))) hown hK hP 0 (Nat.lt_of_lt_of_le (Nat.le_of_ble_eq_true rfl : 0 < 182) (Nat.le_add_right _ _)) (cC_0 _ _ _ _ _) rfl 2 (by decide) (hts (.fieldLink RX11 26 "SeatsRound" "keepers" "LSeatsRound$Keepers;") (List.mem_of_getElem? (i := 1) rfl)) (fun _ h9 => h9) rfl dX11_become_21 ?_
        refine ux_get (D := (dC, dI)) (ci := 2) (v := .ref (ad 8)) (C := RX2) (T := TX2) (M := 6) (fs := (oKP ad (σ.1 7))) hx hb hts (fun _ h9 => List.mem_cons_of_mem _ (List.mem_append_left _ (List.mem_append_left _ (List.mem_append_right _ h9)))) hown hK hP 7 (Nat.lt_of_lt_of_le (Nat.le_of_ble_eq_true rfl : 7 < 182) (Nat.le_add_right _ _)) (cC_7 _ _ _ _ _) rfl 0 (by decide) (hts (.fieldLink RX11 141 "SeatsRound$Keepers" "kind" "[I") (List.mem_of_getElem? (i := 2) rfl)) (fun _ h9 => h9) rfl dX11_become_24 ?_
        refine lv_iload_n hx hb dX11_become_27 rfl (lv_at hl 1 rfl) ?_
        refine ux_iald hx hb hK hP 8 0 (Nat.lt_of_lt_of_le (Nat.le_of_ble_eq_true rfl : 8 < 182) (Nat.le_add_right _ _)) (cC_8 _ _ _ _ _) rfl h dX11_become_28 (fun v5 h => ?_)
        refine lv_istore_n (lv' := [(3, .int v5), (0, .ref (ad 0)), (1, .int x1), (2, .int x2)]) hx hb dX11_become_29 rfl hl (by decide) rfl (fun ls hl => ?_)
        have hl := lv_sub hl [1, 2, 3, 0] (l' := [(0, .ref (ad 0)), (1, .int x1), (2, .int x2), (3, .int v5)]) rfl
        refine lv_aload_n hx hb dX11_become_30 rfl (lv_at hl 0 rfl) ?_
        refine ux_get (D := (dC, dI)) (ci := 11) (v := .ref (ad 7)) (C := RX11) (T := TX11) (M := 13) (fs := (oSR ad (σ.1 0))) hx hb hts (fun _ h9 => List.mem_cons_of_mem _ (List.mem_append_left _ (List.mem_append_left _ (List.mem_append_left _ (List.mem_append_right _ h9))))) hown hK hP 0 (Nat.lt_of_lt_of_le (Nat.le_of_ble_eq_true rfl : 0 < 182) (Nat.le_add_right _ _)) (cC_0 _ _ _ _ _) rfl 2 (by decide) (hts (.fieldLink RX11 26 "SeatsRound" "keepers" "LSeatsRound$Keepers;") (List.mem_of_getElem? (i := 1) rfl)) (fun _ h9 => h9) rfl dX11_become_31 ?_
        refine ux_get (D := (dC, dI)) (ci := 2) (v := .ref (ad 8)) (C := RX2) (T := TX2) (M := 6) (fs := (oKP ad (σ.1 7))) hx hb hts (fun _ h9 => List.mem_cons_of_mem _ (List.mem_append_left _ (List.mem_append_left _ (List.mem_append_right _ h9)))) hown hK hP 7 (Nat.lt_of_lt_of_le (Nat.le_of_ble_eq_true rfl : 7 < 182) (Nat.le_add_right _ _)) (cC_7 _ _ _ _ _) rfl 0 (by decide) (hts (.fieldLink RX11 141 "SeatsRound$Keepers" "kind" "[I") (List.mem_of_getElem? (i := 2) rfl)) (fun _ h9 => h9) rfl dX11_become_34 ?_
        refine lv_iload_n hx hb dX11_become_37 rfl (lv_at hl 1 rfl) ?_
        refine lv_iload_n hx hb dX11_become_38 rfl (lv_at hl 2 rfl) ?_
        refine ux_iast hx hb hK hP hD hS 8 0 (Nat.lt_of_lt_of_le (Nat.le_of_ble_eq_true rfl : 8 < 182) (Nat.le_add_right _ _)) (fun _ => (cC_8 _ _ _ _ _)) rfl h dX11_become_39 (fun σ6 H locs h hP hD hS => ?_)
        refine lv_iload_n hx hb dX11_become_40 rfl (lv_at hl 3 rfl) ?_
        refine lv_iconst (v := 4) hx hb dX11_become_41 (by decide) ?_
        refine lv_icmp_ne (tgt := 58) hx hb dX11_become_42 (by decide) (fun hcd => ?_) (fun hcd => ?_)
        · have h := cdN hcd h
          refine lv_iload_n hx hb dX11_become_58 rfl (lv_at hl 3 rfl) ?_
          exact ux_iret hx hb hr h hP hD hS hlocks dX11_become_59
        · have h := cdP hcd h
          refine lv_iload_n hx hb dX11_become_45 rfl (lv_at hl 2 rfl) ?_
          refine lv_iconst (v := 4) hx hb dX11_become_46 (by decide) ?_
          refine lv_icmp_eq (tgt := 58) hx hb dX11_become_47 (by decide) (fun hcd => ?_) (fun hcd => ?_)
          · have h := cdP hcd h
            refine lv_iload_n hx hb dX11_become_58 rfl (lv_at hl 3 rfl) ?_
            exact ux_iret hx hb hr h hP hD hS hlocks dX11_become_59
          · have h := cdN hcd h
            refine lv_aload_n hx hb dX11_become_50 rfl (lv_at hl 0 rfl) ?_
            refine ux_get (D := (dC, dI)) (ci := 11) (v := .ref (ad 18)) (C := RX11) (T := TX11) (M := 13) (fs := (oSR ad (σ6.1 0))) hx hb hts (fun _ h9 => List.mem_cons_of_mem _ (List.mem_append_left _ (List.mem_append_left _ (List.mem_append_left _ (List.mem_append_right _ h9))))) hown hK hP 0 (Nat.lt_of_lt_of_le (Nat.le_of_ble_eq_true rfl : 0 < 182) (Nat.le_add_right _ _)) (cC_0 _ _ _ _ _) rfl 8 (by decide) (hts (.fieldLink RX11 66 "SeatsRound" "parcels" "LSeatsRound$Parcels;") (List.mem_of_getElem? (i := 3) rfl)) (fun _ h9 => h9) rfl dX11_become_51 ?_
            refine lv_iload_n hx hb dX11_become_54 rfl (lv_at hl 1 rfl) ?_
            obtain ⟨r7, σ8, hf9, h⟩ := bsS h
            refine ux_callv (va_runV (As := [.int x1]) (rest := []) ⟨hx, hb, hml, hown, hts⟩ (tX6_handBack l dC dI cy ad τ nb hτ σ6 x1 H.size r7 σ8 hf9) (cwV 1 hts gX11_become_X6_handBack rfl rfl rfl (by decide +kernel) ⟨Nat.le_of_ble_eq_true rfl, Nat.le_of_ble_eq_true rfl⟩) (wp_V hK hN hP hD (va_recv hK hP (ci := 6) (q0 := 18) rfl (wG_of (Nat.lt_of_lt_of_le (Nat.le_of_ble_eq_true rfl : 18 < 182) (Nat.le_add_right _ _)) (cC_18 _ _ _ _ _)))) rfl rfl hl.1 rfl (lv_room (Nat.le_of_ble_eq_true rfl)) dX11_become_55 ⟨Nat.le_of_ble_eq_true rfl, Nat.le_of_ble_eq_true rfl⟩) hD hS hA (fun H locs hP hD hS => ?_)
            refine lv_iload_n hx hb dX11_become_58 rfl (lv_at hl 3 rfl) ?_
            exact ux_iret hx hb hr h hP hD hS hlocks dX11_become_59
      · have h := cdP hcd h
        refine lv_iconst (v := (-1)) hx hb dX11_become_18 (by decide) ?_
        exact ux_iret hx hb hr h hP hD hS hlocks dX11_become_19
  intro H locs ls h hP hD hS hl
  exact w0 σ a1 a2 H locs ls h hP hD hS (lv_sub hl [0, 1, 2] rfl)

set_option maxHeartbeats 4000000 in
set_option maxRecDepth 100000 in
theorem tX11_strength (l : Launch) (dC : Nat → ClassId) (dI : Nat → Nat → Nat) (cy : Nat → ClassId) (ad : Nat → Nat) (τ nb : Nat) (hτ : τ < nb) (σ : S2) (a1 : Int32) (a2 : Int32) (sz : Nat) (r0 : Int32) (σ9 : S2) (h : fX11_strength τ σ a1 a2 = some (r0, σ9)) : Met l yX11_strength wsX11_strength ({ frames := 2, cells := 0, slots := 0, locals := 44 }) (va_Pc [.ref (ad 0), .int a1, .int a2] (wPre (dC, dI) cy (wG (cC cy ad τ) ad (182 + 6 * nb) σ) sz)) (va_Qi (fun (r : Int32) (_ : Unit) => r = r0) (fun (_ : Unit) t => wAt (dC, dI) (va_A (wG (cC cy ad τ) ad (182 + 6 * nb) σ) sz) (wG (cC cy ad τ) ad (182 + 6 * nb) σ9) t) (va_A (wG (cC cy ad τ) ad (182 + 6 * nb) σ) sz)) 0 0 (va_A (wG (cC cy ad τ) ad (182 + 6 * nb) σ) sz) := by
  refine Met.ofW (cc := cX11_strength) (maxL := 4) (ret := (some .int)) (by decide) rfl ?_
  intro p e s m args below meth c s₁ B hml hv
  obtain ⟨rfl, hsz, hP, hK, hD0, hN⟩ := hv
  have hx := B.exec
  have hb := B.bytes
  have hr := B.returns
  have hts := atoms_spec (ws := wsX11_strength) B.pre
  have hown : s.vm.findClass RX11 = some m.cls := findClass_of_methodNamed B.named
  have hlocks := B.notSynchronized
  subst hsz
  have hD := hD0.self (sz := s.heap.size)
  generalize hAe : va_A (wG (cC cy ad τ) ad (182 + 6 * nb) σ) s.heap.size = A at hD ⊢
  have hA : ∀ q : Nat, s.heap.size ≤ q → A q := fun q h => by rw [← hAe]; exact Or.inr h
  have hS : va_S A s.heap s.heap [] := va_S.rf
  have hl := lv_entry ([.ref (ad 0), .int a1, .int a2]) (n := 4) (Nat.le_of_ble_eq_true rfl)
  rw [lg_entry_eq]
  generalize (lg_sl ([.ref (ad 0), .int a1, .int a2]) ++ List.replicate (4 - (lg_sl ([.ref (ad 0), .int a1, .int a2])).length) Slot.unset).toArray = ls at hl ⊢
  have hl : lv_has ls 4 [(0, .ref (ad 0)), (1, .int a1), (2, .int a2)] := hl
  unfold fX11_strength at h
  clear hAe hD0
  suffices HH : ∀ (H : Heap) (locs : List Loc) (ls : Array Slot), fX11_strength_0 τ σ a1 a2 = some (r0, σ9) → va_P (dC, dI) vwCl (wG (cC cy ad τ) ad (182 + 6 * nb) σ) H → va_D A (wG (cC cy ad τ) ad (182 + 6 * nb) σ) → va_S A s.heap H locs → lv_has ls 4 [(0, .ref (ad 0)), (1, .int a1), (2, .int a2)] → W p l e (headSpec wsX11_strength ({ frames := 2, cells := 0, slots := 0, locals := 44 })).room s m (#[.ref (ad 0), .int a1, .int a2]) below meth c H locs 0 0 (MQ below (va_Qi (fun (r : Int32) (_ : Unit) => r = r0) (fun (_ : Unit) t => wAt (dC, dI) A (wG (cC cy ad τ) ad (182 + 6 * nb) σ9) t) A) (#[.ref (ad 0), .int a1, .int a2]) s 0 0 A) (F0 m 0 ls []) from HH s.heap [] ls h hP hD hS hl
  have w0 : ∀ (σ : S2) (x1 : Int32) (x2 : Int32) (H : Heap) (locs : List Loc) (ls : Array Slot), fX11_strength_0 τ σ x1 x2 = some (r0, σ9) → va_P (dC, dI) vwCl (wG (cC cy ad τ) ad (182 + 6 * nb) σ) H → va_D A (wG (cC cy ad τ) ad (182 + 6 * nb) σ) → va_S A s.heap H locs → lv_has ls 4 [(0, .ref (ad 0)), (1, .int x1), (2, .int x2)] → W p l e (headSpec wsX11_strength ({ frames := 2, cells := 0, slots := 0, locals := 44 })).room s m (#[.ref (ad 0), .int a1, .int a2]) below meth c H locs 0 0 (MQ below (va_Qi (fun (r : Int32) (_ : Unit) => r = r0) (fun (_ : Unit) t => wAt (dC, dI) A (wG (cC cy ad τ) ad (182 + 6 * nb) σ9) t) A) (#[.ref (ad 0), .int a1, .int a2]) s 0 0 A) (F0 m 0 ls []) := by
    intro σ x1 x2 H locs ls h hP hD hS hl
    unfold fX11_strength_0 at h
    refine lv_aload_n hx hb dX11_strength_0 rfl (lv_at hl 0 rfl) ?_
    refine ux_get (D := (dC, dI)) (ci := 11) (v := .ref (ad 7)) (C := RX11) (T := TX11) (M := 13) (fs := (oSR ad (σ.1 0))) hx hb hts (fun _ h9 => List.mem_cons_of_mem _ (List.mem_append_left _ (List.mem_append_right _ h9))) hown hK hP 0 (Nat.lt_of_lt_of_le (Nat.le_of_ble_eq_true rfl : 0 < 182) (Nat.le_add_right _ _)) (cC_0 _ _ _ _ _) rfl 2 (by decide) (hts (.fieldLink RX11 26 "SeatsRound" "keepers" "LSeatsRound$Keepers;") (List.mem_of_getElem? (i := 1) rfl)) (fun _ h9 => h9) rfl dX11_strength_1 ?_
    refine lv_iload_n hx hb dX11_strength_4 rfl (lv_at hl 1 rfl) ?_
    obtain ⟨r1, hf2, h⟩ := biS h
    refine ux_calli (va_runV (As := [.int x1]) (rest := []) ⟨hx, hb, hml, hown, hts⟩ (tX2_has l dC dI cy ad τ nb hτ σ x1 H.size r1 hf2) (cwV 1 hts gX11_strength_X2_has rfl rfl rfl (by decide +kernel) ⟨Nat.le_of_ble_eq_true rfl, Nat.le_of_ble_eq_true rfl⟩) (wp_V hK hN hP hD (va_recv hK hP (ci := 2) (q0 := 7) rfl (wG_of (Nat.lt_of_lt_of_le (Nat.le_of_ble_eq_true rfl : 7 < 182) (Nat.le_add_right _ _)) (cC_7 _ _ _ _ _)))) rfl rfl hl.1 rfl (lv_room (Nat.le_of_ble_eq_true rfl)) dX11_strength_5 ⟨Nat.le_of_ble_eq_true rfl, Nat.le_of_ble_eq_true rfl⟩) hD hS hA (fun H locs hP hD hS => ?_)
    refine lv_if_eq (tgt := 18) hx hb dX11_strength_8 (by decide) (fun hcd => ?_) (fun hcd => ?_)
    · have h := cdP hcd h
      refine lv_iconst (v := (-1)) hx hb dX11_strength_18 (by decide) ?_
      exact ux_iret hx hb hr h hP hD hS hlocks dX11_strength_19
    · have h := cdN hcd h
      refine lv_iload_n hx hb dX11_strength_11 rfl (lv_at hl 2 rfl) ?_
      obtain ⟨r3, hf4, h⟩ := biS h
      refine ux_calli (va_runS (As := [.int x2]) (rest := []) ⟨hx, hb, hml, hown, hts⟩ (tX11_isStrength l dC dI cy ad τ nb hτ σ x2 H.size r3 hf4) (va_cwS 1 hts gX11_strength_X11_isStrength rfl rfl rfl (by decide +kernel) ⟨Nat.le_of_ble_eq_true rfl, Nat.le_of_ble_eq_true rfl⟩) (wp_S hK hN hP hD) rfl rfl hl.1 rfl (lv_room (Nat.le_of_ble_eq_true rfl)) dX11_strength_12 ⟨Nat.le_of_ble_eq_true rfl, Nat.le_of_ble_eq_true rfl⟩) hD hS hA (fun H locs hP hD hS => ?_)
      refine lv_if_ne (tgt := 20) hx hb dX11_strength_15 (by decide) (fun hcd => ?_) (fun hcd => ?_)
      · have h := cdN hcd h
        refine lv_aload_n hx hb dX11_strength_20 rfl (lv_at hl 0 rfl) ?_
        refine ux_get (D := (dC, dI)) (ci := 11) (v := .ref (ad 7)) (C := RX11) (T := TX11) (M := 13) (fs := (oSR ad (σ.1 0))) hx hb hts (fun _ h9 => List.mem_cons_of_mem _ (List.mem_append_left _ (List.mem_append_right _ h9))) hown hK hP 0 (Nat.lt_of_lt_of_le (Nat.le_of_ble_eq_true rfl : 0 < 182) (Nat.le_add_right _ _)) (cC_0 _ _ _ _ _) rfl 2 (by decide) (hts (.fieldLink RX11 26 "SeatsRound" "keepers" "LSeatsRound$Keepers;") (List.mem_of_getElem? (i := 1) rfl)) (fun _ h9 => h9) rfl dX11_strength_21 ?_
        refine ux_get (D := (dC, dI)) (ci := 2) (v := .ref (ad 10)) (C := RX2) (T := TX2) (M := 6) (fs := (oKP ad (σ.1 7))) hx hb hts (fun _ h9 => List.mem_cons_of_mem _ (List.mem_append_right _ h9)) hown hK hP 7 (Nat.lt_of_lt_of_le (Nat.le_of_ble_eq_true rfl : 7 < 182) (Nat.le_add_right _ _)) (cC_7 _ _ _ _ _) rfl 2 (by decide) (hts (.fieldLink RX11 149 "SeatsRound$Keepers" "strength" "[I") (List.mem_of_getElem? (i := 2) rfl)) (fun _ h9 => h9) rfl dX11_strength_24 ?_
        refine lv_iload_n hx hb dX11_strength_27 rfl (lv_at hl 1 rfl) ?_
        refine ux_iald hx hb hK hP 10 0 (Nat.lt_of_lt_of_le (Nat.le_of_ble_eq_true rfl : 10 < 182) (Nat.le_add_right _ _)) (cC_10 _ _ _ _ _) rfl h dX11_strength_28 (fun v5 h => ?_)
        refine lv_istore_n (lv' := [(3, .int v5), (0, .ref (ad 0)), (1, .int x1), (2, .int x2)]) hx hb dX11_strength_29 rfl hl (by decide) rfl (fun ls hl => ?_)
        have hl := lv_sub hl [1, 2, 3, 0] (l' := [(0, .ref (ad 0)), (1, .int x1), (2, .int x2), (3, .int v5)]) rfl
        refine lv_aload_n hx hb dX11_strength_30 rfl (lv_at hl 0 rfl) ?_
        refine ux_get (D := (dC, dI)) (ci := 11) (v := .ref (ad 7)) (C := RX11) (T := TX11) (M := 13) (fs := (oSR ad (σ.1 0))) hx hb hts (fun _ h9 => List.mem_cons_of_mem _ (List.mem_append_left _ (List.mem_append_right _ h9))) hown hK hP 0 (Nat.lt_of_lt_of_le (Nat.le_of_ble_eq_true rfl : 0 < 182) (Nat.le_add_right _ _)) (cC_0 _ _ _ _ _) rfl 2 (by decide) (hts (.fieldLink RX11 26 "SeatsRound" "keepers" "LSeatsRound$Keepers;") (List.mem_of_getElem? (i := 1) rfl)) (fun _ h9 => h9) rfl dX11_strength_31 ?_
        refine ux_get (D := (dC, dI)) (ci := 2) (v := .ref (ad 10)) (C := RX2) (T := TX2) (M := 6) (fs := (oKP ad (σ.1 7))) hx hb hts (fun _ h9 => List.mem_cons_of_mem _ (List.mem_append_right _ h9)) hown hK hP 7 (Nat.lt_of_lt_of_le (Nat.le_of_ble_eq_true rfl : 7 < 182) (Nat.le_add_right _ _)) (cC_7 _ _ _ _ _) rfl 2 (by decide) (hts (.fieldLink RX11 149 "SeatsRound$Keepers" "strength" "[I") (List.mem_of_getElem? (i := 2) rfl)) (fun _ h9 => h9) rfl dX11_strength_34 ?_
        refine lv_iload_n hx hb dX11_strength_37 rfl (lv_at hl 1 rfl) ?_
        refine lv_iload_n hx hb dX11_strength_38 rfl (lv_at hl 2 rfl) ?_
        refine ux_iast hx hb hK hP hD hS 10 0 (Nat.lt_of_lt_of_le (Nat.le_of_ble_eq_true rfl : 10 < 182) (Nat.le_add_right _ _)) (fun _ => (cC_10 _ _ _ _ _)) rfl h dX11_strength_39 (fun σ6 H locs h hP hD hS => ?_)
        refine lv_iload_n hx hb dX11_strength_40 rfl (lv_at hl 3 rfl) ?_
        exact ux_iret hx hb hr h hP hD hS hlocks dX11_strength_41
      · have h := cdP hcd h
        refine lv_iconst (v := (-1)) hx hb dX11_strength_18 (by decide) ?_
        exact ux_iret hx hb hr h hP hD hS hlocks dX11_strength_19
  intro H locs ls h hP hD hS hl
  exact w0 σ a1 a2 H locs ls h hP hD hS (lv_sub hl [0, 1, 2] rfl)

set_option maxHeartbeats 4000000 in
set_option maxRecDepth 100000 in
theorem tX11_ofKeeper (l : Launch) (dC : Nat → ClassId) (dI : Nat → Nat → Nat) (cy : Nat → ClassId) (ad : Nat → Nat) (τ nb : Nat) (hτ : τ < nb) (σ : S2) (a1 : Int32) (a2 : Int32) (sz : Nat) (r0 : Int32) (h : fX11_ofKeeper τ σ a1 a2 = some r0) : Met l yX11_ofKeeper wsX11_ofKeeper ({ frames := 3, cells := 0, slots := 0, locals := 69 }) (va_Pc [.ref (ad 0), .int a1, .int a2] (wPre (dC, dI) cy (wG (cC cy ad τ) ad (182 + 6 * nb) σ) sz)) (va_Qi (fun (r : Int32) (_ : Unit) => r = r0) (fun (_ : Unit) t => wAt (dC, dI) (va_A (wG (cC cy ad τ) ad (182 + 6 * nb) σ) sz) (wG (cC cy ad τ) ad (182 + 6 * nb) σ) t) (va_A (wG (cC cy ad τ) ad (182 + 6 * nb) σ) sz)) 0 0 (va_A (wG (cC cy ad τ) ad (182 + 6 * nb) σ) sz) := by
  refine Met.ofW (cc := cX11_ofKeeper) (maxL := 3) (ret := (some .int)) (by decide) rfl ?_
  intro p e s m args below meth c s₁ B hml hv
  obtain ⟨rfl, hsz, hP, hK, hD0, hN⟩ := hv
  have hx := B.exec
  have hb := B.bytes
  have hr := B.returns
  have hts := atoms_spec (ws := wsX11_ofKeeper) B.pre
  have hown : s.vm.findClass RX11 = some m.cls := findClass_of_methodNamed B.named
  have hlocks := B.notSynchronized
  subst hsz
  have hD := hD0.self (sz := s.heap.size)
  generalize hAe : va_A (wG (cC cy ad τ) ad (182 + 6 * nb) σ) s.heap.size = A at hD ⊢
  have hA : ∀ q : Nat, s.heap.size ≤ q → A q := fun q h => by rw [← hAe]; exact Or.inr h
  have hS : va_S A s.heap s.heap [] := va_S.rf
  have hl := lv_entry ([.ref (ad 0), .int a1, .int a2]) (n := 3) (Nat.le_of_ble_eq_true rfl)
  rw [lg_entry_eq]
  generalize (lg_sl ([.ref (ad 0), .int a1, .int a2]) ++ List.replicate (3 - (lg_sl ([.ref (ad 0), .int a1, .int a2])).length) Slot.unset).toArray = ls at hl ⊢
  have hl : lv_has ls 3 [(0, .ref (ad 0)), (1, .int a1), (2, .int a2)] := hl
  unfold fX11_ofKeeper at h
  clear hAe hD0
  suffices HH : ∀ (H : Heap) (locs : List Loc) (ls : Array Slot), fX11_ofKeeper_0 τ σ a1 a2 = some r0 → va_P (dC, dI) vwCl (wG (cC cy ad τ) ad (182 + 6 * nb) σ) H → va_D A (wG (cC cy ad τ) ad (182 + 6 * nb) σ) → va_S A s.heap H locs → lv_has ls 3 [(0, .ref (ad 0)), (1, .int a1), (2, .int a2)] → W p l e (headSpec wsX11_ofKeeper ({ frames := 3, cells := 0, slots := 0, locals := 69 })).room s m (#[.ref (ad 0), .int a1, .int a2]) below meth c H locs 0 0 (MQ below (va_Qi (fun (r : Int32) (_ : Unit) => r = r0) (fun (_ : Unit) t => wAt (dC, dI) A (wG (cC cy ad τ) ad (182 + 6 * nb) σ) t) A) (#[.ref (ad 0), .int a1, .int a2]) s 0 0 A) (F0 m 0 ls []) from HH s.heap [] ls h hP hD hS hl
  have w0 : ∀ (σ : S2) (x1 : Int32) (x2 : Int32) (H : Heap) (locs : List Loc) (ls : Array Slot), fX11_ofKeeper_0 τ σ x1 x2 = some r0 → va_P (dC, dI) vwCl (wG (cC cy ad τ) ad (182 + 6 * nb) σ) H → va_D A (wG (cC cy ad τ) ad (182 + 6 * nb) σ) → va_S A s.heap H locs → lv_has ls 3 [(0, .ref (ad 0)), (1, .int x1), (2, .int x2)] → W p l e (headSpec wsX11_ofKeeper ({ frames := 3, cells := 0, slots := 0, locals := 69 })).room s m (#[.ref (ad 0), .int a1, .int a2]) below meth c H locs 0 0 (MQ below (va_Qi (fun (r : Int32) (_ : Unit) => r = r0) (fun (_ : Unit) t => wAt (dC, dI) A (wG (cC cy ad τ) ad (182 + 6 * nb) σ) t) A) (#[.ref (ad 0), .int a1, .int a2]) s 0 0 A) (F0 m 0 ls []) := by
    intro σ x1 x2 H locs ls h hP hD hS hl
    unfold fX11_ofKeeper_0 at h
    refine lv_aload_n hx hb dX11_ofKeeper_0 rfl (lv_at hl 0 rfl) ?_
    refine ux_get (D := (dC, dI)) (ci := 11) (v := .ref (ad 7)) (C := RX11) (T := TX11) (M := 13) (fs := (oSR ad (σ.1 0))) hx hb hts (fun _ h9 => List.mem_cons_of_mem _ (List.mem_append_left _ (List.mem_append_left _ (List.mem_append_right _ h9)))) hown hK hP 0 (Nat.lt_of_lt_of_le (Nat.le_of_ble_eq_true rfl : 0 < 182) (Nat.le_add_right _ _)) (cC_0 _ _ _ _ _) rfl 2 (by decide) (hts (.fieldLink RX11 26 "SeatsRound" "keepers" "LSeatsRound$Keepers;") (List.mem_of_getElem? (i := 1) rfl)) (fun _ h9 => h9) rfl dX11_ofKeeper_1 ?_
    refine lv_iload_n hx hb dX11_ofKeeper_4 rfl (lv_at hl 1 rfl) ?_
    obtain ⟨r1, hf2, h⟩ := biS h
    refine ux_calli (va_runV (As := [.int x1]) (rest := []) ⟨hx, hb, hml, hown, hts⟩ (tX2_has l dC dI cy ad τ nb hτ σ x1 H.size r1 hf2) (cwV 1 hts gX11_ofKeeper_X2_has rfl rfl rfl (by decide +kernel) ⟨Nat.le_of_ble_eq_true rfl, Nat.le_of_ble_eq_true rfl⟩) (wp_V hK hN hP hD (va_recv hK hP (ci := 2) (q0 := 7) rfl (wG_of (Nat.lt_of_lt_of_le (Nat.le_of_ble_eq_true rfl : 7 < 182) (Nat.le_add_right _ _)) (cC_7 _ _ _ _ _)))) rfl rfl hl.1 rfl (lv_room (Nat.le_of_ble_eq_true rfl)) dX11_ofKeeper_5 ⟨Nat.le_of_ble_eq_true rfl, Nat.le_of_ble_eq_true rfl⟩) hD hS hA (fun H locs hP hD hS => ?_)
    refine lv_if_ne (tgt := 14) hx hb dX11_ofKeeper_8 (by decide) (fun hcd => ?_) (fun hcd => ?_)
    · have h := cdN hcd h
      refine lv_iload_n hx hb dX11_ofKeeper_14 rfl (lv_at hl 2 rfl) ?_
      by_cases hcd3 : x2 = 0
      · have h := cdP hcd3 h
        refine lv_tableIn (off := 45) (tgt := 60) hx hb dX11_ofKeeper_15 (by rw [hcd3]; decide) (by rw [hcd3]; decide) (by rw [hcd3]; rfl) (by decide) ?_
        refine lv_aload_n hx hb dX11_ofKeeper_60 rfl (lv_at hl 0 rfl) ?_
        refine ux_get (D := (dC, dI)) (ci := 11) (v := .ref (ad 7)) (C := RX11) (T := TX11) (M := 13) (fs := (oSR ad (σ.1 0))) hx hb hts (fun _ h9 => List.mem_cons_of_mem _ (List.mem_append_left _ (List.mem_append_left _ (List.mem_append_right _ h9)))) hown hK hP 0 (Nat.lt_of_lt_of_le (Nat.le_of_ble_eq_true rfl : 0 < 182) (Nat.le_add_right _ _)) (cC_0 _ _ _ _ _) rfl 2 (by decide) (hts (.fieldLink RX11 26 "SeatsRound" "keepers" "LSeatsRound$Keepers;") (List.mem_of_getElem? (i := 1) rfl)) (fun _ h9 => h9) rfl dX11_ofKeeper_61 ?_
        refine ux_get (D := (dC, dI)) (ci := 2) (v := .ref (ad 8)) (C := RX2) (T := TX2) (M := 6) (fs := (oKP ad (σ.1 7))) hx hb hts (fun _ h9 => List.mem_cons_of_mem _ (List.mem_append_left _ (List.mem_append_right _ h9))) hown hK hP 7 (Nat.lt_of_lt_of_le (Nat.le_of_ble_eq_true rfl : 7 < 182) (Nat.le_add_right _ _)) (cC_7 _ _ _ _ _) rfl 0 (by decide) (hts (.fieldLink RX11 141 "SeatsRound$Keepers" "kind" "[I") (List.mem_of_getElem? (i := 3) rfl)) (fun _ h9 => h9) rfl dX11_ofKeeper_64 ?_
        refine lv_iload_n hx hb dX11_ofKeeper_67 rfl (lv_at hl 1 rfl) ?_
        refine ux_iald hx hb hK hP 8 0 (Nat.lt_of_lt_of_le (Nat.le_of_ble_eq_true rfl : 8 < 182) (Nat.le_add_right _ _)) (cC_8 _ _ _ _ _) rfl h dX11_ofKeeper_68 (fun v4 h => ?_)
        exact ux_iretP hx hb hr h hP hD hS hlocks dX11_ofKeeper_69
      · have h := cdN hcd3 h
        have ihcd3 : ¬ x2.toInt = (0 : Int) := fun h9 => hcd3 (Int32.toInt_inj.mp h9)
        by_cases hcd5 : x2 = 1
        · have h := cdP hcd5 h
          refine lv_tableIn (off := 55) (tgt := 70) hx hb dX11_ofKeeper_15 (by rw [hcd5]; decide) (by rw [hcd5]; decide) (by rw [hcd5]; rfl) (by decide) ?_
          refine lv_aload_n hx hb dX11_ofKeeper_70 rfl (lv_at hl 0 rfl) ?_
          refine ux_get (D := (dC, dI)) (ci := 11) (v := .ref (ad 7)) (C := RX11) (T := TX11) (M := 13) (fs := (oSR ad (σ.1 0))) hx hb hts (fun _ h9 => List.mem_cons_of_mem _ (List.mem_append_left _ (List.mem_append_left _ (List.mem_append_right _ h9)))) hown hK hP 0 (Nat.lt_of_lt_of_le (Nat.le_of_ble_eq_true rfl : 0 < 182) (Nat.le_add_right _ _)) (cC_0 _ _ _ _ _) rfl 2 (by decide) (hts (.fieldLink RX11 26 "SeatsRound" "keepers" "LSeatsRound$Keepers;") (List.mem_of_getElem? (i := 1) rfl)) (fun _ h9 => h9) rfl dX11_ofKeeper_71 ?_
          refine ux_get (D := (dC, dI)) (ci := 2) (v := .ref (ad 9)) (C := RX2) (T := TX2) (M := 6) (fs := (oKP ad (σ.1 7))) hx hb hts (fun _ h9 => List.mem_cons_of_mem _ (List.mem_append_left _ (List.mem_append_right _ h9))) hown hK hP 7 (Nat.lt_of_lt_of_le (Nat.le_of_ble_eq_true rfl : 7 < 182) (Nat.le_add_right _ _)) (cC_7 _ _ _ _ _) rfl 1 (by decide) (hts (.fieldLink RX11 153 "SeatsRound$Keepers" "street" "[I") (List.mem_of_getElem? (i := 4) rfl)) (fun _ h9 => h9) rfl dX11_ofKeeper_74 ?_
          refine lv_iload_n hx hb dX11_ofKeeper_77 rfl (lv_at hl 1 rfl) ?_
          refine ux_iald hx hb hK hP 9 0 (Nat.lt_of_lt_of_le (Nat.le_of_ble_eq_true rfl : 9 < 182) (Nat.le_add_right _ _)) (cC_9 _ _ _ _ _) rfl h dX11_ofKeeper_78 (fun v6 h => ?_)
          exact ux_iretP hx hb hr h hP hD hS hlocks dX11_ofKeeper_79
        · have h := cdN hcd5 h
          have ihcd5 : ¬ x2.toInt = (1 : Int) := fun h9 => hcd5 (Int32.toInt_inj.mp h9)
          by_cases hcd7 : x2 = 2
          · have h := cdP hcd7 h
            refine lv_tableIn (off := 65) (tgt := 80) hx hb dX11_ofKeeper_15 (by rw [hcd7]; decide) (by rw [hcd7]; decide) (by rw [hcd7]; rfl) (by decide) ?_
            refine lv_aload_n hx hb dX11_ofKeeper_80 rfl (lv_at hl 0 rfl) ?_
            refine ux_get (D := (dC, dI)) (ci := 11) (v := .ref (ad 7)) (C := RX11) (T := TX11) (M := 13) (fs := (oSR ad (σ.1 0))) hx hb hts (fun _ h9 => List.mem_cons_of_mem _ (List.mem_append_left _ (List.mem_append_left _ (List.mem_append_right _ h9)))) hown hK hP 0 (Nat.lt_of_lt_of_le (Nat.le_of_ble_eq_true rfl : 0 < 182) (Nat.le_add_right _ _)) (cC_0 _ _ _ _ _) rfl 2 (by decide) (hts (.fieldLink RX11 26 "SeatsRound" "keepers" "LSeatsRound$Keepers;") (List.mem_of_getElem? (i := 1) rfl)) (fun _ h9 => h9) rfl dX11_ofKeeper_81 ?_
            refine ux_get (D := (dC, dI)) (ci := 2) (v := .ref (ad 10)) (C := RX2) (T := TX2) (M := 6) (fs := (oKP ad (σ.1 7))) hx hb hts (fun _ h9 => List.mem_cons_of_mem _ (List.mem_append_left _ (List.mem_append_right _ h9))) hown hK hP 7 (Nat.lt_of_lt_of_le (Nat.le_of_ble_eq_true rfl : 7 < 182) (Nat.le_add_right _ _)) (cC_7 _ _ _ _ _) rfl 2 (by decide) (hts (.fieldLink RX11 149 "SeatsRound$Keepers" "strength" "[I") (List.mem_of_getElem? (i := 5) rfl)) (fun _ h9 => h9) rfl dX11_ofKeeper_84 ?_
            refine lv_iload_n hx hb dX11_ofKeeper_87 rfl (lv_at hl 1 rfl) ?_
            refine ux_iald hx hb hK hP 10 0 (Nat.lt_of_lt_of_le (Nat.le_of_ble_eq_true rfl : 10 < 182) (Nat.le_add_right _ _)) (cC_10 _ _ _ _ _) rfl h dX11_ofKeeper_88 (fun v8 h => ?_)
            exact ux_iretP hx hb hr h hP hD hS hlocks dX11_ofKeeper_89
          · have h := cdN hcd7 h
            have ihcd7 : ¬ x2.toInt = (2 : Int) := fun h9 => hcd7 (Int32.toInt_inj.mp h9)
            by_cases hcd9 : x2 = 3
            · have h := cdP hcd9 h
              refine lv_tableIn (off := 75) (tgt := 90) hx hb dX11_ofKeeper_15 (by rw [hcd9]; decide) (by rw [hcd9]; decide) (by rw [hcd9]; rfl) (by decide) ?_
              refine lv_aload_n hx hb dX11_ofKeeper_90 rfl (lv_at hl 0 rfl) ?_
              refine ux_get (D := (dC, dI)) (ci := 11) (v := .ref (ad 7)) (C := RX11) (T := TX11) (M := 13) (fs := (oSR ad (σ.1 0))) hx hb hts (fun _ h9 => List.mem_cons_of_mem _ (List.mem_append_left _ (List.mem_append_left _ (List.mem_append_right _ h9)))) hown hK hP 0 (Nat.lt_of_lt_of_le (Nat.le_of_ble_eq_true rfl : 0 < 182) (Nat.le_add_right _ _)) (cC_0 _ _ _ _ _) rfl 2 (by decide) (hts (.fieldLink RX11 26 "SeatsRound" "keepers" "LSeatsRound$Keepers;") (List.mem_of_getElem? (i := 1) rfl)) (fun _ h9 => h9) rfl dX11_ofKeeper_91 ?_
              refine lv_iload_n hx hb dX11_ofKeeper_94 rfl (lv_at hl 1 rfl) ?_
              obtain ⟨r10, hf11, h⟩ := biS h
              refine ux_calli (va_runV (As := [.int x1]) (rest := []) ⟨hx, hb, hml, hown, hts⟩ (tX2_counting l dC dI cy ad τ nb hτ σ x1 H.size r10 hf11) (cwV 1 hts gX11_ofKeeper_X2_counting rfl rfl rfl (by decide +kernel) ⟨Nat.le_of_ble_eq_true rfl, Nat.le_of_ble_eq_true rfl⟩) (wp_V hK hN hP hD (va_recv hK hP (ci := 2) (q0 := 7) rfl (wG_of (Nat.lt_of_lt_of_le (Nat.le_of_ble_eq_true rfl : 7 < 182) (Nat.le_add_right _ _)) (cC_7 _ _ _ _ _)))) rfl rfl hl.1 rfl (lv_room (Nat.le_of_ble_eq_true rfl)) dX11_ofKeeper_95 ⟨Nat.le_of_ble_eq_true rfl, Nat.le_of_ble_eq_true rfl⟩) hD hS hA (fun H locs hP hD hS => ?_)
              exact ux_iretP hx hb hr h hP hD hS hlocks dX11_ofKeeper_98
            · have h := cdN hcd9 h
              have ihcd9 : ¬ x2.toInt = (3 : Int) := fun h9 => hcd9 (Int32.toInt_inj.mp h9)
              by_cases hcd12 : x2 = 4
              · have h := cdP hcd12 h
                refine lv_tableIn (off := 84) (tgt := 99) hx hb dX11_ofKeeper_15 (by rw [hcd12]; decide) (by rw [hcd12]; decide) (by rw [hcd12]; rfl) (by decide) ?_
                refine lv_aload_n hx hb dX11_ofKeeper_99 rfl (lv_at hl 0 rfl) ?_
                refine ux_get (D := (dC, dI)) (ci := 11) (v := .ref (ad 7)) (C := RX11) (T := TX11) (M := 13) (fs := (oSR ad (σ.1 0))) hx hb hts (fun _ h9 => List.mem_cons_of_mem _ (List.mem_append_left _ (List.mem_append_left _ (List.mem_append_right _ h9)))) hown hK hP 0 (Nat.lt_of_lt_of_le (Nat.le_of_ble_eq_true rfl : 0 < 182) (Nat.le_add_right _ _)) (cC_0 _ _ _ _ _) rfl 2 (by decide) (hts (.fieldLink RX11 26 "SeatsRound" "keepers" "LSeatsRound$Keepers;") (List.mem_of_getElem? (i := 1) rfl)) (fun _ h9 => h9) rfl dX11_ofKeeper_100 ?_
                refine ux_get (D := (dC, dI)) (ci := 2) (v := .ref (ad 11)) (C := RX2) (T := TX2) (M := 6) (fs := (oKP ad (σ.1 7))) hx hb hts (fun _ h9 => List.mem_cons_of_mem _ (List.mem_append_left _ (List.mem_append_right _ h9))) hown hK hP 7 (Nat.lt_of_lt_of_le (Nat.le_of_ble_eq_true rfl : 7 < 182) (Nat.le_add_right _ _)) (cC_7 _ _ _ _ _) rfl 3 (by decide) (hts (.fieldLink RX11 160 "SeatsRound$Keepers" "table" "[I") (List.mem_of_getElem? (i := 6) rfl)) (fun _ h9 => h9) rfl dX11_ofKeeper_103 ?_
                refine lv_iload_n hx hb dX11_ofKeeper_106 rfl (lv_at hl 1 rfl) ?_
                refine ux_iald hx hb hK hP 11 0 (Nat.lt_of_lt_of_le (Nat.le_of_ble_eq_true rfl : 11 < 182) (Nat.le_add_right _ _)) (cC_11 _ _ _ _ _) rfl h dX11_ofKeeper_107 (fun v13 h => ?_)
                exact ux_iretP hx hb hr h hP hD hS hlocks dX11_ofKeeper_108
              · have h := cdN hcd12 h
                have ihcd12 : ¬ x2.toInt = (4 : Int) := fun h9 => hcd12 (Int32.toInt_inj.mp h9)
                by_cases hcd14 : x2 = 5
                · have h := cdP hcd14 h
                  refine lv_tableIn (off := 94) (tgt := 109) hx hb dX11_ofKeeper_15 (by rw [hcd14]; decide) (by rw [hcd14]; decide) (by rw [hcd14]; rfl) (by decide) ?_
                  refine lv_aload_n hx hb dX11_ofKeeper_109 rfl (lv_at hl 0 rfl) ?_
                  refine ux_get (D := (dC, dI)) (ci := 11) (v := .ref (ad 18)) (C := RX11) (T := TX11) (M := 13) (fs := (oSR ad (σ.1 0))) hx hb hts (fun _ h9 => List.mem_cons_of_mem _ (List.mem_append_left _ (List.mem_append_left _ (List.mem_append_right _ h9)))) hown hK hP 0 (Nat.lt_of_lt_of_le (Nat.le_of_ble_eq_true rfl : 0 < 182) (Nat.le_add_right _ _)) (cC_0 _ _ _ _ _) rfl 8 (by decide) (hts (.fieldLink RX11 66 "SeatsRound" "parcels" "LSeatsRound$Parcels;") (List.mem_of_getElem? (i := 7) rfl)) (fun _ h9 => h9) rfl dX11_ofKeeper_110 ?_
                  refine lv_iload_n hx hb dX11_ofKeeper_113 rfl (lv_at hl 1 rfl) ?_
                  obtain ⟨r15, hf16, h⟩ := biS h
                  refine ux_calli (va_runV (As := [.int x1]) (rest := []) ⟨hx, hb, hml, hown, hts⟩ (tX6_copiesOn l dC dI cy ad τ nb hτ σ x1 H.size r15 hf16) (cwV 1 hts gX11_ofKeeper_X6_copiesOn rfl rfl rfl (by decide +kernel) ⟨Nat.le_of_ble_eq_true rfl, Nat.le_of_ble_eq_true rfl⟩) (wp_V hK hN hP hD (va_recv hK hP (ci := 6) (q0 := 18) rfl (wG_of (Nat.lt_of_lt_of_le (Nat.le_of_ble_eq_true rfl : 18 < 182) (Nat.le_add_right _ _)) (cC_18 _ _ _ _ _)))) rfl rfl hl.1 rfl (lv_room (Nat.le_of_ble_eq_true rfl)) dX11_ofKeeper_114 ⟨Nat.le_of_ble_eq_true rfl, Nat.le_of_ble_eq_true rfl⟩) hD hS hA (fun H locs hP hD hS => ?_)
                  exact ux_iretP hx hb hr h hP hD hS hlocks dX11_ofKeeper_117
                · have h := cdN hcd14 h
                  have ihcd14 : ¬ x2.toInt = (5 : Int) := fun h9 => hcd14 (Int32.toInt_inj.mp h9)
                  by_cases hcd17 : x2 = 6
                  · have h := cdP hcd17 h
                    refine lv_tableIn (off := 103) (tgt := 118) hx hb dX11_ofKeeper_15 (by rw [hcd17]; decide) (by rw [hcd17]; decide) (by rw [hcd17]; rfl) (by decide) ?_
                    refine lv_aload_n hx hb dX11_ofKeeper_118 rfl (lv_at hl 0 rfl) ?_
                    refine ux_get (D := (dC, dI)) (ci := 11) (v := .ref (ad 18)) (C := RX11) (T := TX11) (M := 13) (fs := (oSR ad (σ.1 0))) hx hb hts (fun _ h9 => List.mem_cons_of_mem _ (List.mem_append_left _ (List.mem_append_left _ (List.mem_append_right _ h9)))) hown hK hP 0 (Nat.lt_of_lt_of_le (Nat.le_of_ble_eq_true rfl : 0 < 182) (Nat.le_add_right _ _)) (cC_0 _ _ _ _ _) rfl 8 (by decide) (hts (.fieldLink RX11 66 "SeatsRound" "parcels" "LSeatsRound$Parcels;") (List.mem_of_getElem? (i := 7) rfl)) (fun _ h9 => h9) rfl dX11_ofKeeper_119 ?_
                    refine lv_iload_n hx hb dX11_ofKeeper_122 rfl (lv_at hl 1 rfl) ?_
                    obtain ⟨r18, hf19, h⟩ := biS h
                    refine ux_calli (va_runV (As := [.int x1]) (rest := []) ⟨hx, hb, hml, hown, hts⟩ (tX6_keptBy l dC dI cy ad τ nb hτ σ x1 H.size r18 hf19) (cwV 1 hts gX11_ofKeeper_X6_keptBy rfl rfl rfl (by decide +kernel) ⟨Nat.le_of_ble_eq_true rfl, Nat.le_of_ble_eq_true rfl⟩) (wp_V hK hN hP hD (va_recv hK hP (ci := 6) (q0 := 18) rfl (wG_of (Nat.lt_of_lt_of_le (Nat.le_of_ble_eq_true rfl : 18 < 182) (Nat.le_add_right _ _)) (cC_18 _ _ _ _ _)))) rfl rfl hl.1 rfl (lv_room (Nat.le_of_ble_eq_true rfl)) dX11_ofKeeper_123 ⟨Nat.le_of_ble_eq_true rfl, Nat.le_of_ble_eq_true rfl⟩) hD hS hA (fun H locs hP hD hS => ?_)
                    exact ux_iretP hx hb hr h hP hD hS hlocks dX11_ofKeeper_126
                  · have h := cdN hcd17 h
                    have ihcd17 : ¬ x2.toInt = (6 : Int) := fun h9 => hcd17 (Int32.toInt_inj.mp h9)
                    by_cases hcd20 : x2 = 7
                    · have h := cdP hcd20 h
                      refine lv_tableIn (off := 112) (tgt := 127) hx hb dX11_ofKeeper_15 (by rw [hcd20]; decide) (by rw [hcd20]; decide) (by rw [hcd20]; rfl) (by decide) ?_
                      refine lv_aload_n hx hb dX11_ofKeeper_127 rfl (lv_at hl 0 rfl) ?_
                      refine ux_get (D := (dC, dI)) (ci := 11) (v := .ref (ad 7)) (C := RX11) (T := TX11) (M := 13) (fs := (oSR ad (σ.1 0))) hx hb hts (fun _ h9 => List.mem_cons_of_mem _ (List.mem_append_left _ (List.mem_append_left _ (List.mem_append_right _ h9)))) hown hK hP 0 (Nat.lt_of_lt_of_le (Nat.le_of_ble_eq_true rfl : 0 < 182) (Nat.le_add_right _ _)) (cC_0 _ _ _ _ _) rfl 2 (by decide) (hts (.fieldLink RX11 26 "SeatsRound" "keepers" "LSeatsRound$Keepers;") (List.mem_of_getElem? (i := 1) rfl)) (fun _ h9 => h9) rfl dX11_ofKeeper_128 ?_
                      refine ux_get (D := (dC, dI)) (ci := 2) (v := .ref (ad 12)) (C := RX2) (T := TX2) (M := 6) (fs := (oKP ad (σ.1 7))) hx hb hts (fun _ h9 => List.mem_cons_of_mem _ (List.mem_append_left _ (List.mem_append_right _ h9))) hown hK hP 7 (Nat.lt_of_lt_of_le (Nat.le_of_ble_eq_true rfl : 7 < 182) (Nat.le_add_right _ _)) (cC_7 _ _ _ _ _) rfl 4 (by decide) (hts (.fieldLink RX11 169 "SeatsRound$Keepers" "fallen" "[Z") (List.mem_of_getElem? (i := 8) rfl)) (fun _ h9 => h9) rfl dX11_ofKeeper_131 ?_
                      refine lv_iload_n hx hb dX11_ofKeeper_134 rfl (lv_at hl 1 rfl) ?_
                      refine ux_zald hx hb hK hP 12 2 (Nat.lt_of_lt_of_le (Nat.le_of_ble_eq_true rfl : 12 < 182) (Nat.le_add_right _ _)) (cC_12 _ _ _ _ _) rfl h dX11_ofKeeper_135 (fun v21 h => ?_)
                      refine lv_if_eq (tgt := 143) hx hb dX11_ofKeeper_136 (by decide) (fun hcd => ?_) (fun hcd => ?_)
                      · have h := cdP hcd h
                        refine lv_iconst (v := 0) hx hb dX11_ofKeeper_143 (by decide) ?_
                        exact ux_iretP hx hb hr h hP hD hS hlocks dX11_ofKeeper_144
                      · have h := cdN hcd h
                        refine lv_iconst (v := 1) hx hb dX11_ofKeeper_139 (by decide) ?_
                        refine lv_goto (tgt := 144) hx hb dX11_ofKeeper_140 (by decide) ?_
                        exact ux_iretP hx hb hr h hP hD hS hlocks dX11_ofKeeper_144
                    · have h := cdN hcd20 h
                      have ihcd20 : ¬ x2.toInt = (7 : Int) := fun h9 => hcd20 (Int32.toInt_inj.mp h9)
                      refine lv_tableOut (tgt := 145) hx hb dX11_ofKeeper_15 (by omega) (by decide) ?_
                      refine lv_ldc hx hb hown (hts (.constant RX11 152 (-2000000000)) (List.mem_of_getElem? (i := 2) rfl)) dX11_ofKeeper_145 ?_
                      exact ux_iretP hx hb hr h hP hD hS hlocks dX11_ofKeeper_147
    · have h := cdP hcd h
      refine lv_ldc hx hb hown (hts (.constant RX11 152 (-2000000000)) (List.mem_of_getElem? (i := 2) rfl)) dX11_ofKeeper_11 ?_
      exact ux_iretP hx hb hr h hP hD hS hlocks dX11_ofKeeper_13
  intro H locs ls h hP hD hS hl
  exact w0 σ a1 a2 H locs ls h hP hD hS (lv_sub hl [0, 1, 2] rfl)

set_option maxHeartbeats 4000000 in
set_option maxRecDepth 100000 in
theorem tX11_ofTable (l : Launch) (dC : Nat → ClassId) (dI : Nat → Nat → Nat) (cy : Nat → ClassId) (ad : Nat → Nat) (τ nb : Nat) (hτ : τ < nb) (σ : S2) (a1 : Int32) (a2 : Int32) (sz : Nat) (r0 : Int32) (σ9 : S2) (h : fX11_ofTable τ σ a1 a2 = some (r0, σ9)) : Met l yX11_ofTable wsX11_ofTable ({ frames := 6, cells := 0, slots := 0, locals := 135 }) (va_Pc [.ref (ad 0), .int a1, .int a2] (wPre (dC, dI) cy (wG (cC cy ad τ) ad (182 + 6 * nb) σ) sz)) (va_Qi (fun (r : Int32) (_ : Unit) => r = r0) (fun (_ : Unit) t => wAt (dC, dI) (va_A (wG (cC cy ad τ) ad (182 + 6 * nb) σ) sz) (wG (cC cy ad τ) ad (182 + 6 * nb) σ9) t) (va_A (wG (cC cy ad τ) ad (182 + 6 * nb) σ) sz)) 0 0 (va_A (wG (cC cy ad τ) ad (182 + 6 * nb) σ) sz) := by
  refine Met.ofW (cc := cX11_ofTable) (maxL := 4) (ret := (some .int)) (by decide) rfl ?_
  intro p e s m args below meth c s₁ B hml hv
  obtain ⟨rfl, hsz, hP, hK, hD0, hN⟩ := hv
  have hx := B.exec
  have hb := B.bytes
  have hr := B.returns
  have hts := atoms_spec (ws := wsX11_ofTable) B.pre
  have hown : s.vm.findClass RX11 = some m.cls := findClass_of_methodNamed B.named
  have hlocks := B.notSynchronized
  subst hsz
  have hD := hD0.self (sz := s.heap.size)
  generalize hAe : va_A (wG (cC cy ad τ) ad (182 + 6 * nb) σ) s.heap.size = A at hD ⊢
  have hA : ∀ q : Nat, s.heap.size ≤ q → A q := fun q h => by rw [← hAe]; exact Or.inr h
  have hS : va_S A s.heap s.heap [] := va_S.rf
  have hl := lv_entry ([.ref (ad 0), .int a1, .int a2]) (n := 4) (Nat.le_of_ble_eq_true rfl)
  rw [lg_entry_eq]
  generalize (lg_sl ([.ref (ad 0), .int a1, .int a2]) ++ List.replicate (4 - (lg_sl ([.ref (ad 0), .int a1, .int a2])).length) Slot.unset).toArray = ls at hl ⊢
  have hl : lv_has ls 4 [(0, .ref (ad 0)), (1, .int a1), (2, .int a2)] := hl
  unfold fX11_ofTable at h
  clear hAe hD0
  suffices HH : ∀ (H : Heap) (locs : List Loc) (ls : Array Slot), fX11_ofTable_0 τ σ a1 a2 = some (r0, σ9) → va_P (dC, dI) vwCl (wG (cC cy ad τ) ad (182 + 6 * nb) σ) H → va_D A (wG (cC cy ad τ) ad (182 + 6 * nb) σ) → va_S A s.heap H locs → lv_has ls 4 [(0, .ref (ad 0)), (1, .int a1), (2, .int a2)] → W p l e (headSpec wsX11_ofTable ({ frames := 6, cells := 0, slots := 0, locals := 135 })).room s m (#[.ref (ad 0), .int a1, .int a2]) below meth c H locs 0 0 (MQ below (va_Qi (fun (r : Int32) (_ : Unit) => r = r0) (fun (_ : Unit) t => wAt (dC, dI) A (wG (cC cy ad τ) ad (182 + 6 * nb) σ9) t) A) (#[.ref (ad 0), .int a1, .int a2]) s 0 0 A) (F0 m 0 ls []) from HH s.heap [] ls h hP hD hS hl
  have w0 : ∀ (σ : S2) (x1 : Int32) (x2 : Int32) (H : Heap) (locs : List Loc) (ls : Array Slot), fX11_ofTable_0 τ σ x1 x2 = some (r0, σ9) → va_P (dC, dI) vwCl (wG (cC cy ad τ) ad (182 + 6 * nb) σ) H → va_D A (wG (cC cy ad τ) ad (182 + 6 * nb) σ) → va_S A s.heap H locs → lv_has ls 4 [(0, .ref (ad 0)), (1, .int x1), (2, .int x2)] → W p l e (headSpec wsX11_ofTable ({ frames := 6, cells := 0, slots := 0, locals := 135 })).room s m (#[.ref (ad 0), .int a1, .int a2]) below meth c H locs 0 0 (MQ below (va_Qi (fun (r : Int32) (_ : Unit) => r = r0) (fun (_ : Unit) t => wAt (dC, dI) A (wG (cC cy ad τ) ad (182 + 6 * nb) σ9) t) A) (#[.ref (ad 0), .int a1, .int a2]) s 0 0 A) (F0 m 0 ls []) := by
    intro σ x1 x2 H locs ls h hP hD hS hl
    unfold fX11_ofTable_0 at h
    refine lv_aload_n hx hb dX11_ofTable_0 rfl (lv_at hl 0 rfl) ?_
    refine lv_iload_n hx hb dX11_ofTable_1 rfl (lv_at hl 1 rfl) ?_
    rcases btS h with ⟨hf1, h⟩ | ⟨b2, hf1, h⟩
    · have _ := hτ
      refine ux_callqN (va_runV (As := [.int x1]) (rest := []) ⟨hx, hb, hml, hown, hts⟩ (tX11_tableAt l dC dI cy ad τ nb hτ σ x1 H.size none hf1) (cwV 1 hts gX11_ofTable_X11_tableAt rfl rfl rfl (by decide +kernel) ⟨Nat.le_of_ble_eq_true rfl, Nat.le_of_ble_eq_true rfl⟩) (wp_V hK hN hP hD (va_recv hK hP (ci := 11) (q0 := 0) rfl (wG_of (Nat.lt_of_lt_of_le (Nat.le_of_ble_eq_true rfl : 0 < 182) (Nat.le_add_right _ _)) (cC_0 _ _ _ _ _)))) rfl rfl hl.1 rfl (lv_room (Nat.le_of_ble_eq_true rfl)) dX11_ofTable_2 ⟨Nat.le_of_ble_eq_true rfl, Nat.le_of_ble_eq_true rfl⟩) ?_
      refine lv_astore_nN (lv' := [(3, .null), (0, .ref (ad 0)), (1, .int x1), (2, .int x2)]) hx hb dX11_ofTable_5 rfl hl (by decide) rfl (fun ls hl => ?_)
      have hl := lv_sub hl [1, 2, 3, 0] (l' := [(0, .ref (ad 0)), (1, .int x1), (2, .int x2), (3, .null)]) rfl
      refine lv_aload_nN hx hb dX11_ofTable_6 rfl (lv_at hl 3 rfl) ?_
      refine lv_ifnonnullN hx hb dX11_ofTable_7 ?_
      refine lv_iconst (v := (-1)) hx hb dX11_ofTable_10 (by decide) ?_
      exact ux_iret hx hb hr h hP hD hS hlocks dX11_ofTable_11
    · have hb2 : b2 < nb := ux_tabB hτ hf1
      refine ux_callqS (va_runV (As := [.int x1]) (rest := []) ⟨hx, hb, hml, hown, hts⟩ (tX11_tableAt l dC dI cy ad τ nb hτ σ x1 H.size (some b2) hf1) (cwV 1 hts gX11_ofTable_X11_tableAt rfl rfl rfl (by decide +kernel) ⟨Nat.le_of_ble_eq_true rfl, Nat.le_of_ble_eq_true rfl⟩) (wp_V hK hN hP hD (va_recv hK hP (ci := 11) (q0 := 0) rfl (wG_of (Nat.lt_of_lt_of_le (Nat.le_of_ble_eq_true rfl : 0 < 182) (Nat.le_add_right _ _)) (cC_0 _ _ _ _ _)))) rfl rfl hl.1 rfl (lv_room (Nat.le_of_ble_eq_true rfl)) dX11_ofTable_2 ⟨Nat.le_of_ble_eq_true rfl, Nat.le_of_ble_eq_true rfl⟩) ?_
      refine lv_astore_n (lv' := [(3, .ref (ad (182 + 6 * b2))), (0, .ref (ad 0)), (1, .int x1), (2, .int x2)]) hx hb dX11_ofTable_5 rfl hl (by decide) rfl (fun ls hl => ?_)
      have hl := lv_sub hl [1, 2, 3, 0] (l' := [(0, .ref (ad 0)), (1, .int x1), (2, .int x2), (3, .ref (ad (182 + 6 * b2)))]) rfl
      refine lv_aload_n hx hb dX11_ofTable_6 rfl (lv_at hl 3 rfl) ?_
      refine lv_ifnonnull (tgt := 12) hx hb dX11_ofTable_7 (by decide) ?_
      refine lv_iload_n hx hb dX11_ofTable_12 rfl (lv_at hl 2 rfl) ?_
      by_cases hcd3 : x2 = 0
      · have h := cdP hcd3 h
        refine lv_tableIn (off := 39) (tgt := 52) hx hb dX11_ofTable_13 (by rw [hcd3]; decide) (by rw [hcd3]; decide) (by rw [hcd3]; rfl) (by decide) ?_
        refine lv_aload_n hx hb dX11_ofTable_52 rfl (lv_at hl 3 rfl) ?_
        refine ux_get (D := (dC, dI)) (ci := 8) (v := .int (σ.1 (182 + 6 * b2) 0)) (C := RX8) (T := TX8) (M := 13) (fs := (oTB ad (182 + 6 * b2) (σ.1 (182 + 6 * b2)))) hx hb hts (fun _ h9 => List.mem_cons_of_mem _ (List.mem_append_left _ (List.mem_append_right _ h9))) hown hK hP (182 + 6 * b2) (by omega) (cC_t0 _ _ _ _ _ b2) rfl 0 (by decide) (hts (.fieldLink RX11 196 "SeatsRound$Table" "members" "I") (List.mem_of_getElem? (i := 1) rfl)) (fun _ h9 => h9) rfl dX11_ofTable_53 ?_
        exact ux_iret hx hb hr h hP hD hS hlocks dX11_ofTable_56
      · have h := cdN hcd3 h
        have ihcd3 : ¬ x2.toInt = (0 : Int) := fun h9 => hcd3 (Int32.toInt_inj.mp h9)
        by_cases hcd4 : x2 = 1
        · have h := cdP hcd4 h
          refine lv_tableIn (off := 44) (tgt := 57) hx hb dX11_ofTable_13 (by rw [hcd4]; decide) (by rw [hcd4]; decide) (by rw [hcd4]; rfl) (by decide) ?_
          refine lv_aload_n hx hb dX11_ofTable_57 rfl (lv_at hl 3 rfl) ?_
          refine ux_get (D := (dC, dI)) (ci := 8) (v := .int (σ.1 (182 + 6 * b2) 5)) (C := RX8) (T := TX8) (M := 13) (fs := (oTB ad (182 + 6 * b2) (σ.1 (182 + 6 * b2)))) hx hb hts (fun _ h9 => List.mem_cons_of_mem _ (List.mem_append_left _ (List.mem_append_right _ h9))) hown hK hP (182 + 6 * b2) (by omega) (cC_t0 _ _ _ _ _ b2) rfl 5 (by decide) (hts (.fieldLink RX11 199 "SeatsRound$Table" "seats" "I") (List.mem_of_getElem? (i := 2) rfl)) (fun _ h9 => h9) rfl dX11_ofTable_58 ?_
          exact ux_iret hx hb hr h hP hD hS hlocks dX11_ofTable_61
        · have h := cdN hcd4 h
          have ihcd4 : ¬ x2.toInt = (1 : Int) := fun h9 => hcd4 (Int32.toInt_inj.mp h9)
          by_cases hcd5 : x2 = 2
          · have h := cdP hcd5 h
            refine lv_tableIn (off := 49) (tgt := 62) hx hb dX11_ofTable_13 (by rw [hcd5]; decide) (by rw [hcd5]; decide) (by rw [hcd5]; rfl) (by decide) ?_
            refine lv_aload_n hx hb dX11_ofTable_62 rfl (lv_at hl 3 rfl) ?_
            refine ux_get (D := (dC, dI)) (ci := 8) (v := .int (σ.1 (182 + 6 * b2) 2)) (C := RX8) (T := TX8) (M := 13) (fs := (oTB ad (182 + 6 * b2) (σ.1 (182 + 6 * b2)))) hx hb hts (fun _ h9 => List.mem_cons_of_mem _ (List.mem_append_left _ (List.mem_append_right _ h9))) hown hK hP (182 + 6 * b2) (by omega) (cC_t0 _ _ _ _ _ b2) rfl 2 (by decide) (hts (.fieldLink RX11 202 "SeatsRound$Table" "copies" "I") (List.mem_of_getElem? (i := 3) rfl)) (fun _ h9 => h9) rfl dX11_ofTable_63 ?_
            exact ux_iret hx hb hr h hP hD hS hlocks dX11_ofTable_66
          · have h := cdN hcd5 h
            have ihcd5 : ¬ x2.toInt = (2 : Int) := fun h9 => hcd5 (Int32.toInt_inj.mp h9)
            by_cases hcd6 : x2 = 3
            · have h := cdP hcd6 h
              refine lv_tableIn (off := 54) (tgt := 67) hx hb dX11_ofTable_13 (by rw [hcd6]; decide) (by rw [hcd6]; decide) (by rw [hcd6]; rfl) (by decide) ?_
              refine lv_aload_n hx hb dX11_ofTable_67 rfl (lv_at hl 3 rfl) ?_
              refine ux_get (D := (dC, dI)) (ci := 8) (v := .int (σ.1 (182 + 6 * b2) 3)) (C := RX8) (T := TX8) (M := 13) (fs := (oTB ad (182 + 6 * b2) (σ.1 (182 + 6 * b2)))) hx hb hts (fun _ h9 => List.mem_cons_of_mem _ (List.mem_append_left _ (List.mem_append_right _ h9))) hown hK hP (182 + 6 * b2) (by omega) (cC_t0 _ _ _ _ _ b2) rfl 3 (by decide) (hts (.fieldLink RX11 205 "SeatsRound$Table" "streets" "I") (List.mem_of_getElem? (i := 4) rfl)) (fun _ h9 => h9) rfl dX11_ofTable_68 ?_
              exact ux_iret hx hb hr h hP hD hS hlocks dX11_ofTable_71
            · have h := cdN hcd6 h
              have ihcd6 : ¬ x2.toInt = (3 : Int) := fun h9 => hcd6 (Int32.toInt_inj.mp h9)
              by_cases hcd7 : x2 = 4
              · have h := cdP hcd7 h
                refine lv_tableIn (off := 59) (tgt := 72) hx hb dX11_ofTable_13 (by rw [hcd7]; decide) (by rw [hcd7]; decide) (by rw [hcd7]; rfl) (by decide) ?_
                refine lv_aload_n hx hb dX11_ofTable_72 rfl (lv_at hl 3 rfl) ?_
                refine ux_get (D := (dC, dI)) (ci := 8) (v := .int (σ.1 (182 + 6 * b2) 4)) (C := RX8) (T := TX8) (M := 13) (fs := (oTB ad (182 + 6 * b2) (σ.1 (182 + 6 * b2)))) hx hb hts (fun _ h9 => List.mem_cons_of_mem _ (List.mem_append_left _ (List.mem_append_right _ h9))) hown hK hP (182 + 6 * b2) (by omega) (cC_t0 _ _ _ _ _ b2) rfl 4 (by decide) (hts (.fieldLink RX11 208 "SeatsRound$Table" "way" "I") (List.mem_of_getElem? (i := 5) rfl)) (fun _ h9 => h9) rfl dX11_ofTable_73 ?_
                exact ux_iret hx hb hr h hP hD hS hlocks dX11_ofTable_76
              · have h := cdN hcd7 h
                have ihcd7 : ¬ x2.toInt = (4 : Int) := fun h9 => hcd7 (Int32.toInt_inj.mp h9)
                by_cases hcd8 : x2 = 5
                · have h := cdP hcd8 h
                  refine lv_tableIn (off := 64) (tgt := 77) hx hb dX11_ofTable_13 (by rw [hcd8]; decide) (by rw [hcd8]; decide) (by rw [hcd8]; rfl) (by decide) ?_
                  refine lv_aload_n hx hb dX11_ofTable_77 rfl (lv_at hl 3 rfl) ?_
                  obtain ⟨r9, σ10, hf11, h⟩ := bsS h
                  refine ux_calli (va_runV (As := []) (rest := []) ⟨hx, hb, hml, hown, hts⟩ (tX8_unevenness l dC dI cy ad τ nb hτ b2 (by omega) σ H.size r9 σ10 hf11) (cwV 0 hts gX11_ofTable_X8_unevenness rfl rfl rfl (by decide +kernel) ⟨Nat.le_of_ble_eq_true rfl, Nat.le_of_ble_eq_true rfl⟩) (wp_V hK hN hP hD (va_recv hK hP (ci := 8) (q0 := (182 + 6 * b2)) rfl (wG_of (by omega) (cC_t0 _ _ _ _ _ b2)))) rfl rfl hl.1 rfl (lv_room (Nat.le_of_ble_eq_true rfl)) dX11_ofTable_78 ⟨Nat.le_of_ble_eq_true rfl, Nat.le_of_ble_eq_true rfl⟩) hD hS hA (fun H locs hP hD hS => ?_)
                  exact ux_iret hx hb hr h hP hD hS hlocks dX11_ofTable_81
                · have h := cdN hcd8 h
                  have ihcd8 : ¬ x2.toInt = (5 : Int) := fun h9 => hcd8 (Int32.toInt_inj.mp h9)
                  refine lv_tableOut (tgt := 82) hx hb dX11_ofTable_13 (by omega) (by decide) ?_
                  refine lv_iconst (v := (-1)) hx hb dX11_ofTable_82 (by decide) ?_
                  exact ux_iret hx hb hr h hP hD hS hlocks dX11_ofTable_83
  intro H locs ls h hP hD hS hl
  exact w0 σ a1 a2 H locs ls h hP hD hS (lv_sub hl [0, 1, 2] rfl)

set_option maxHeartbeats 4000000 in
set_option maxRecDepth 100000 in
theorem tX11_isPlace (l : Launch) (dC : Nat → ClassId) (dI : Nat → Nat → Nat) (cy : Nat → ClassId) (ad : Nat → Nat) (τ nb : Nat) (hτ : τ < nb) (σ : S2) (a0 : Int32) (sz : Nat) (r0 : Int32) (h : fX11_isPlace τ σ a0 = some r0) : Met l yX11_isPlace wsX11_isPlace ({ frames := 1, cells := 0, slots := 0, locals := 23 }) (va_Pc [.int a0] (wPre (dC, dI) cy (wG (cC cy ad τ) ad (182 + 6 * nb) σ) sz)) (va_Qi (fun (r : Int32) (_ : Unit) => r = r0) (fun (_ : Unit) t => wAt (dC, dI) (va_A (wG (cC cy ad τ) ad (182 + 6 * nb) σ) sz) (wG (cC cy ad τ) ad (182 + 6 * nb) σ) t) (va_A (wG (cC cy ad τ) ad (182 + 6 * nb) σ) sz)) 0 0 (va_A (wG (cC cy ad τ) ad (182 + 6 * nb) σ) sz) := by
  refine Met.ofW (cc := cX11_isPlace) (maxL := 1) (ret := (some .boolean)) (by decide) rfl ?_
  intro p e s m args below meth c s₁ B hml hv
  obtain ⟨rfl, hsz, hP, hK, hD0, hN⟩ := hv
  have hx := B.exec
  have hb := B.bytes
  have hr := B.returns
  have hts := atoms_spec (ws := wsX11_isPlace) B.pre
  have hown : s.vm.findClass RX11 = some m.cls := findClass_of_methodNamed B.named
  have hlocks := B.notSynchronized
  subst hsz
  have hD := hD0.self (sz := s.heap.size)
  generalize hAe : va_A (wG (cC cy ad τ) ad (182 + 6 * nb) σ) s.heap.size = A at hD ⊢
  have hA : ∀ q : Nat, s.heap.size ≤ q → A q := fun q h => by rw [← hAe]; exact Or.inr h
  have hS : va_S A s.heap s.heap [] := va_S.rf
  have hl := lv_entry ([.int a0]) (n := 1) (Nat.le_of_ble_eq_true rfl)
  rw [lg_entry_eq]
  generalize (lg_sl ([.int a0]) ++ List.replicate (1 - (lg_sl ([.int a0])).length) Slot.unset).toArray = ls at hl ⊢
  have hl : lv_has ls 1 [(0, .int a0)] := hl
  unfold fX11_isPlace at h
  clear hAe hD0
  suffices HH : ∀ (H : Heap) (locs : List Loc) (ls : Array Slot), fX11_isPlace_0 τ σ a0 = some r0 → va_P (dC, dI) vwCl (wG (cC cy ad τ) ad (182 + 6 * nb) σ) H → va_D A (wG (cC cy ad τ) ad (182 + 6 * nb) σ) → va_S A s.heap H locs → lv_has ls 1 [(0, .int a0)] → W p l e (headSpec wsX11_isPlace ({ frames := 1, cells := 0, slots := 0, locals := 23 })).room s m (#[.int a0]) below meth c H locs 0 0 (MQ below (va_Qi (fun (r : Int32) (_ : Unit) => r = r0) (fun (_ : Unit) t => wAt (dC, dI) A (wG (cC cy ad τ) ad (182 + 6 * nb) σ) t) A) (#[.int a0]) s 0 0 A) (F0 m 0 ls []) from HH s.heap [] ls h hP hD hS hl
  have w0 : ∀ (σ : S2) (x0 : Int32) (H : Heap) (locs : List Loc) (ls : Array Slot), fX11_isPlace_0 τ σ x0 = some r0 → va_P (dC, dI) vwCl (wG (cC cy ad τ) ad (182 + 6 * nb) σ) H → va_D A (wG (cC cy ad τ) ad (182 + 6 * nb) σ) → va_S A s.heap H locs → lv_has ls 1 [(0, .int x0)] → W p l e (headSpec wsX11_isPlace ({ frames := 1, cells := 0, slots := 0, locals := 23 })).room s m (#[.int a0]) below meth c H locs 0 0 (MQ below (va_Qi (fun (r : Int32) (_ : Unit) => r = r0) (fun (_ : Unit) t => wAt (dC, dI) A (wG (cC cy ad τ) ad (182 + 6 * nb) σ) t) A) (#[.int a0]) s 0 0 A) (F0 m 0 ls []) := by
    intro σ x0 H locs ls h hP hD hS hl
    unfold fX11_isPlace_0 at h
    refine lv_iload_n hx hb dX11_isPlace_0 rfl (lv_at hl 0 rfl) ?_
    refine lv_if_lt (tgt := 15) hx hb dX11_isPlace_1 (by decide) (fun hcd => ?_) (fun hcd => ?_)
    · have h := cdP hcd h
      refine lv_iconst (v := 0) hx hb dX11_isPlace_15 (by decide) ?_
      exact ux_zretP hx hb hr rfl h hP hD hS hlocks dX11_isPlace_16
    · have h := cdN hcd h
      refine lv_iload_n hx hb dX11_isPlace_4 rfl (lv_at hl 0 rfl) ?_
      refine lv_sipush (v := 1000) hx hb dX11_isPlace_5 (by decide) ?_
      refine lv_icmp_ge (tgt := 15) hx hb dX11_isPlace_8 (by decide) (fun hcd => ?_) (fun hcd => ?_)
      · have h := cdP hcd h
        refine lv_iconst (v := 0) hx hb dX11_isPlace_15 (by decide) ?_
        exact ux_zretP hx hb hr rfl h hP hD hS hlocks dX11_isPlace_16
      · have h := cdN hcd h
        refine lv_iconst (v := 1) hx hb dX11_isPlace_11 (by decide) ?_
        refine lv_goto (tgt := 16) hx hb dX11_isPlace_12 (by decide) ?_
        exact ux_zretP hx hb hr rfl h hP hD hS hlocks dX11_isPlace_16
  intro H locs ls h hP hD hS hl
  exact w0 σ a0 H locs ls h hP hD hS (lv_sub hl [0] rfl)

set_option maxHeartbeats 4000000 in
set_option maxRecDepth 100000 in
theorem tX11_seat (l : Launch) (dC : Nat → ClassId) (dI : Nat → Nat → Nat) (cy : Nat → ClassId) (ad : Nat → Nat) (τ nb : Nat) (hτ : τ < nb) (σ : S2) (a1 : Int32) (a2 : Int32) (sz : Nat) (r0 : Int32) (h : fX11_seat τ σ a1 a2 = some r0) : Met l yX11_seat wsX11_seat ({ frames := 2, cells := 0, slots := 0, locals := 44 }) (va_Pc [.ref (ad 0), .int a1, .int a2] (wPre (dC, dI) cy (wG (cC cy ad τ) ad (182 + 6 * nb) σ) sz)) (va_Qi (fun (r : Int32) (_ : Unit) => r = r0) (fun (_ : Unit) t => wAt (dC, dI) (va_A (wG (cC cy ad τ) ad (182 + 6 * nb) σ) sz) (wG (cC cy ad τ) ad (182 + 6 * nb) σ) t) (va_A (wG (cC cy ad τ) ad (182 + 6 * nb) σ) sz)) 0 0 (va_A (wG (cC cy ad τ) ad (182 + 6 * nb) σ) sz) := by
  refine Met.ofW (cc := cX11_seat) (maxL := 4) (ret := (some .int)) (by decide) rfl ?_
  intro p e s m args below meth c s₁ B hml hv
  obtain ⟨rfl, hsz, hP, hK, hD0, hN⟩ := hv
  have hx := B.exec
  have hb := B.bytes
  have hr := B.returns
  have hts := atoms_spec (ws := wsX11_seat) B.pre
  have hown : s.vm.findClass RX11 = some m.cls := findClass_of_methodNamed B.named
  have hlocks := B.notSynchronized
  subst hsz
  have hD := hD0.self (sz := s.heap.size)
  generalize hAe : va_A (wG (cC cy ad τ) ad (182 + 6 * nb) σ) s.heap.size = A at hD ⊢
  have hA : ∀ q : Nat, s.heap.size ≤ q → A q := fun q h => by rw [← hAe]; exact Or.inr h
  have hS : va_S A s.heap s.heap [] := va_S.rf
  have hl := lv_entry ([.ref (ad 0), .int a1, .int a2]) (n := 4) (Nat.le_of_ble_eq_true rfl)
  rw [lg_entry_eq]
  generalize (lg_sl ([.ref (ad 0), .int a1, .int a2]) ++ List.replicate (4 - (lg_sl ([.ref (ad 0), .int a1, .int a2])).length) Slot.unset).toArray = ls at hl ⊢
  have hl : lv_has ls 4 [(0, .ref (ad 0)), (1, .int a1), (2, .int a2)] := hl
  unfold fX11_seat at h
  clear hAe hD0
  suffices HH : ∀ (H : Heap) (locs : List Loc) (ls : Array Slot), fX11_seat_0 τ σ a1 a2 = some r0 → va_P (dC, dI) vwCl (wG (cC cy ad τ) ad (182 + 6 * nb) σ) H → va_D A (wG (cC cy ad τ) ad (182 + 6 * nb) σ) → va_S A s.heap H locs → lv_has ls 4 [(0, .ref (ad 0)), (1, .int a1), (2, .int a2)] → W p l e (headSpec wsX11_seat ({ frames := 2, cells := 0, slots := 0, locals := 44 })).room s m (#[.ref (ad 0), .int a1, .int a2]) below meth c H locs 0 0 (MQ below (va_Qi (fun (r : Int32) (_ : Unit) => r = r0) (fun (_ : Unit) t => wAt (dC, dI) A (wG (cC cy ad τ) ad (182 + 6 * nb) σ) t) A) (#[.ref (ad 0), .int a1, .int a2]) s 0 0 A) (F0 m 0 ls []) from HH s.heap [] ls h hP hD hS hl
  have w0 : ∀ (σ : S2) (x1 : Int32) (x2 : Int32) (H : Heap) (locs : List Loc) (ls : Array Slot), fX11_seat_0 τ σ x1 x2 = some r0 → va_P (dC, dI) vwCl (wG (cC cy ad τ) ad (182 + 6 * nb) σ) H → va_D A (wG (cC cy ad τ) ad (182 + 6 * nb) σ) → va_S A s.heap H locs → lv_has ls 4 [(0, .ref (ad 0)), (1, .int x1), (2, .int x2)] → W p l e (headSpec wsX11_seat ({ frames := 2, cells := 0, slots := 0, locals := 44 })).room s m (#[.ref (ad 0), .int a1, .int a2]) below meth c H locs 0 0 (MQ below (va_Qi (fun (r : Int32) (_ : Unit) => r = r0) (fun (_ : Unit) t => wAt (dC, dI) A (wG (cC cy ad τ) ad (182 + 6 * nb) σ) t) A) (#[.ref (ad 0), .int a1, .int a2]) s 0 0 A) (F0 m 0 ls []) := by
    intro σ x1 x2 H locs ls h hP hD hS hl
    unfold fX11_seat_0 at h
    refine lv_aload_n hx hb dX11_seat_0 rfl (lv_at hl 0 rfl) ?_
    refine lv_iload_n hx hb dX11_seat_1 rfl (lv_at hl 1 rfl) ?_
    rcases btS h with ⟨hf1, h⟩ | ⟨b2, hf1, h⟩
    · have _ := hτ
      refine ux_callqN (va_runV (As := [.int x1]) (rest := []) ⟨hx, hb, hml, hown, hts⟩ (tX11_tableAt l dC dI cy ad τ nb hτ σ x1 H.size none hf1) (cwV 1 hts gX11_seat_X11_tableAt rfl rfl rfl (by decide +kernel) ⟨Nat.le_of_ble_eq_true rfl, Nat.le_of_ble_eq_true rfl⟩) (wp_V hK hN hP hD (va_recv hK hP (ci := 11) (q0 := 0) rfl (wG_of (Nat.lt_of_lt_of_le (Nat.le_of_ble_eq_true rfl : 0 < 182) (Nat.le_add_right _ _)) (cC_0 _ _ _ _ _)))) rfl rfl hl.1 rfl (lv_room (Nat.le_of_ble_eq_true rfl)) dX11_seat_2 ⟨Nat.le_of_ble_eq_true rfl, Nat.le_of_ble_eq_true rfl⟩) ?_
      refine lv_astore_nN (lv' := [(3, .null), (0, .ref (ad 0)), (1, .int x1), (2, .int x2)]) hx hb dX11_seat_5 rfl hl (by decide) rfl (fun ls hl => ?_)
      have hl := lv_sub hl [1, 2, 3, 0] (l' := [(0, .ref (ad 0)), (1, .int x1), (2, .int x2), (3, .null)]) rfl
      refine lv_aload_nN hx hb dX11_seat_6 rfl (lv_at hl 3 rfl) ?_
      refine lv_ifnullN (tgt := 17) hx hb dX11_seat_7 (by decide) ?_
      refine lv_iconst (v := (-1)) hx hb dX11_seat_17 (by decide) ?_
      exact ux_iretP hx hb hr h hP hD hS hlocks dX11_seat_18
    · have hb2 : b2 < nb := ux_tabB hτ hf1
      refine ux_callqS (va_runV (As := [.int x1]) (rest := []) ⟨hx, hb, hml, hown, hts⟩ (tX11_tableAt l dC dI cy ad τ nb hτ σ x1 H.size (some b2) hf1) (cwV 1 hts gX11_seat_X11_tableAt rfl rfl rfl (by decide +kernel) ⟨Nat.le_of_ble_eq_true rfl, Nat.le_of_ble_eq_true rfl⟩) (wp_V hK hN hP hD (va_recv hK hP (ci := 11) (q0 := 0) rfl (wG_of (Nat.lt_of_lt_of_le (Nat.le_of_ble_eq_true rfl : 0 < 182) (Nat.le_add_right _ _)) (cC_0 _ _ _ _ _)))) rfl rfl hl.1 rfl (lv_room (Nat.le_of_ble_eq_true rfl)) dX11_seat_2 ⟨Nat.le_of_ble_eq_true rfl, Nat.le_of_ble_eq_true rfl⟩) ?_
      refine lv_astore_n (lv' := [(3, .ref (ad (182 + 6 * b2))), (0, .ref (ad 0)), (1, .int x1), (2, .int x2)]) hx hb dX11_seat_5 rfl hl (by decide) rfl (fun ls hl => ?_)
      have hl := lv_sub hl [1, 2, 3, 0] (l' := [(0, .ref (ad 0)), (1, .int x1), (2, .int x2), (3, .ref (ad (182 + 6 * b2)))]) rfl
      refine lv_aload_n hx hb dX11_seat_6 rfl (lv_at hl 3 rfl) ?_
      refine lv_ifnull hx hb dX11_seat_7 ?_
      refine lv_iload_n hx hb dX11_seat_10 rfl (lv_at hl 2 rfl) ?_
      obtain ⟨r3, hf4, h⟩ := biS h
      refine ux_calli (va_runS (As := [.int x2]) (rest := []) ⟨hx, hb, hml, hown, hts⟩ (tX11_isPlace l dC dI cy ad τ nb hτ σ x2 H.size r3 hf4) (va_cwS 1 hts gX11_seat_X11_isPlace rfl rfl rfl (by decide +kernel) ⟨Nat.le_of_ble_eq_true rfl, Nat.le_of_ble_eq_true rfl⟩) (wp_S hK hN hP hD) rfl rfl hl.1 rfl (lv_room (Nat.le_of_ble_eq_true rfl)) dX11_seat_11 ⟨Nat.le_of_ble_eq_true rfl, Nat.le_of_ble_eq_true rfl⟩) hD hS hA (fun H locs hP hD hS => ?_)
      refine lv_if_ne (tgt := 19) hx hb dX11_seat_14 (by decide) (fun hcd => ?_) (fun hcd => ?_)
      · have h := cdN hcd h
        refine lv_aload_n hx hb dX11_seat_19 rfl (lv_at hl 3 rfl) ?_
        refine ux_get (D := (dC, dI)) (ci := 8) (v := .ref (ad (182 + 6 * b2 + 4))) (C := RX8) (T := TX8) (M := 13) (fs := (oTB ad (182 + 6 * b2) (σ.1 (182 + 6 * b2)))) hx hb hts (fun _ h9 => List.mem_cons_of_mem _ (List.mem_append_left _ (List.mem_append_right _ h9))) hown hK hP (182 + 6 * b2) (by omega) (cC_t0 _ _ _ _ _ b2) rfl 11 (by decide) (hts (.fieldLink RX11 218 "SeatsRound$Table" "owner" "[B") (List.mem_of_getElem? (i := 1) rfl)) (fun _ h9 => h9) rfl dX11_seat_20 ?_
        refine lv_iload_n hx hb dX11_seat_23 rfl (lv_at hl 2 rfl) ?_
        refine ux_bald hx hb hK hP (182 + 6 * b2 + 4) 1 (by omega) (cC_t4 _ _ _ _ _ b2) rfl h dX11_seat_24 (fun v5 h => ?_)
        refine lv_iconst (v := (-1)) hx hb dX11_seat_25 (by decide) ?_
        refine lv_icmp_ne (tgt := 34) hx hb dX11_seat_26 (by decide) (fun hcd => ?_) (fun hcd => ?_)
        · have h := cdN hcd h
          refine lv_aload_n hx hb dX11_seat_34 rfl (lv_at hl 3 rfl) ?_
          refine ux_get (D := (dC, dI)) (ci := 8) (v := .ref (ad (182 + 6 * b2 + 4))) (C := RX8) (T := TX8) (M := 13) (fs := (oTB ad (182 + 6 * b2) (σ.1 (182 + 6 * b2)))) hx hb hts (fun _ h9 => List.mem_cons_of_mem _ (List.mem_append_left _ (List.mem_append_right _ h9))) hown hK hP (182 + 6 * b2) (by omega) (cC_t0 _ _ _ _ _ b2) rfl 11 (by decide) (hts (.fieldLink RX11 218 "SeatsRound$Table" "owner" "[B") (List.mem_of_getElem? (i := 1) rfl)) (fun _ h9 => h9) rfl dX11_seat_35 ?_
          refine lv_iload_n hx hb dX11_seat_38 rfl (lv_at hl 2 rfl) ?_
          refine ux_bald hx hb hK hP (182 + 6 * b2 + 4) 1 (by omega) (cC_t4 _ _ _ _ _ b2) rfl h dX11_seat_39 (fun v6 h => ?_)
          exact ux_iretP hx hb hr h hP hD hS hlocks dX11_seat_40
        · have h := cdP hcd h
          refine lv_bipush (v := (-2)) hx hb dX11_seat_29 (by decide) ?_
          refine lv_goto (tgt := 40) hx hb dX11_seat_31 (by decide) ?_
          exact ux_iretP hx hb hr h hP hD hS hlocks dX11_seat_40
      · have h := cdP hcd h
        refine lv_iconst (v := (-1)) hx hb dX11_seat_17 (by decide) ?_
        exact ux_iretP hx hb hr h hP hD hS hlocks dX11_seat_18
  intro H locs ls h hP hD hS hl
  exact w0 σ a1 a2 H locs ls h hP hD hS (lv_sub hl [0, 1, 2] rfl)

set_option maxHeartbeats 4000000 in
set_option maxRecDepth 100000 in
theorem tX11_picked (l : Launch) (dC : Nat → ClassId) (dI : Nat → Nat → Nat) (cy : Nat → ClassId) (ad : Nat → Nat) (τ nb : Nat) (hτ : τ < nb) (σ : S2) (a1 : Int32) (a2 : Int32) (a3 : Int32) (sz : Nat) (r0 : Int32) (σ9 : S2) (h : fX11_picked τ σ a1 a2 a3 = some (r0, σ9)) : Met l yX11_picked wsX11_picked ({ frames := 5, cells := 0, slots := 0, locals := 113 }) (va_Pc [.ref (ad 0), .int a1, .int a2, .int a3] (wPre (dC, dI) cy (wG (cC cy ad τ) ad (182 + 6 * nb) σ) sz)) (va_Qi (fun (r : Int32) (_ : Unit) => r = r0) (fun (_ : Unit) t => wAt (dC, dI) (va_A (wG (cC cy ad τ) ad (182 + 6 * nb) σ) sz) (wG (cC cy ad τ) ad (182 + 6 * nb) σ9) t) (va_A (wG (cC cy ad τ) ad (182 + 6 * nb) σ) sz)) 0 0 (va_A (wG (cC cy ad τ) ad (182 + 6 * nb) σ) sz) := by
  refine Met.ofW (cc := cX11_picked) (maxL := 5) (ret := (some .int)) (by decide) rfl ?_
  intro p e s m args below meth c s₁ B hml hv
  obtain ⟨rfl, hsz, hP, hK, hD0, hN⟩ := hv
  have hx := B.exec
  have hb := B.bytes
  have hr := B.returns
  have hts := atoms_spec (ws := wsX11_picked) B.pre
  have hown : s.vm.findClass RX11 = some m.cls := findClass_of_methodNamed B.named
  have hlocks := B.notSynchronized
  subst hsz
  have hD := hD0.self (sz := s.heap.size)
  generalize hAe : va_A (wG (cC cy ad τ) ad (182 + 6 * nb) σ) s.heap.size = A at hD ⊢
  have hA : ∀ q : Nat, s.heap.size ≤ q → A q := fun q h => by rw [← hAe]; exact Or.inr h
  have hS : va_S A s.heap s.heap [] := va_S.rf
  have hl := lv_entry ([.ref (ad 0), .int a1, .int a2, .int a3]) (n := 5) (Nat.le_of_ble_eq_true rfl)
  rw [lg_entry_eq]
  generalize (lg_sl ([.ref (ad 0), .int a1, .int a2, .int a3]) ++ List.replicate (5 - (lg_sl ([.ref (ad 0), .int a1, .int a2, .int a3])).length) Slot.unset).toArray = ls at hl ⊢
  have hl : lv_has ls 5 [(0, .ref (ad 0)), (1, .int a1), (2, .int a2), (3, .int a3)] := hl
  unfold fX11_picked at h
  clear hAe hD0
  suffices HH : ∀ (H : Heap) (locs : List Loc) (ls : Array Slot), fX11_picked_0 τ σ a1 a2 a3 = some (r0, σ9) → va_P (dC, dI) vwCl (wG (cC cy ad τ) ad (182 + 6 * nb) σ) H → va_D A (wG (cC cy ad τ) ad (182 + 6 * nb) σ) → va_S A s.heap H locs → lv_has ls 5 [(0, .ref (ad 0)), (1, .int a1), (2, .int a2), (3, .int a3)] → W p l e (headSpec wsX11_picked ({ frames := 5, cells := 0, slots := 0, locals := 113 })).room s m (#[.ref (ad 0), .int a1, .int a2, .int a3]) below meth c H locs 0 0 (MQ below (va_Qi (fun (r : Int32) (_ : Unit) => r = r0) (fun (_ : Unit) t => wAt (dC, dI) A (wG (cC cy ad τ) ad (182 + 6 * nb) σ9) t) A) (#[.ref (ad 0), .int a1, .int a2, .int a3]) s 0 0 A) (F0 m 0 ls []) from HH s.heap [] ls h hP hD hS hl
  have w0 : ∀ (σ : S2) (x1 : Int32) (x2 : Int32) (x3 : Int32) (H : Heap) (locs : List Loc) (ls : Array Slot), fX11_picked_0 τ σ x1 x2 x3 = some (r0, σ9) → va_P (dC, dI) vwCl (wG (cC cy ad τ) ad (182 + 6 * nb) σ) H → va_D A (wG (cC cy ad τ) ad (182 + 6 * nb) σ) → va_S A s.heap H locs → lv_has ls 5 [(0, .ref (ad 0)), (1, .int x1), (2, .int x2), (3, .int x3)] → W p l e (headSpec wsX11_picked ({ frames := 5, cells := 0, slots := 0, locals := 113 })).room s m (#[.ref (ad 0), .int a1, .int a2, .int a3]) below meth c H locs 0 0 (MQ below (va_Qi (fun (r : Int32) (_ : Unit) => r = r0) (fun (_ : Unit) t => wAt (dC, dI) A (wG (cC cy ad τ) ad (182 + 6 * nb) σ9) t) A) (#[.ref (ad 0), .int a1, .int a2, .int a3]) s 0 0 A) (F0 m 0 ls []) := by
    intro σ x1 x2 x3 H locs ls h hP hD hS hl
    unfold fX11_picked_0 at h
    refine lv_aload_n hx hb dX11_picked_0 rfl (lv_at hl 0 rfl) ?_
    refine lv_iload_n hx hb dX11_picked_1 rfl (lv_at hl 1 rfl) ?_
    rcases btS h with ⟨hf1, h⟩ | ⟨b2, hf1, h⟩
    · have _ := hτ
      refine ux_callqN (va_runV (As := [.int x1]) (rest := []) ⟨hx, hb, hml, hown, hts⟩ (tX11_tableAt l dC dI cy ad τ nb hτ σ x1 H.size none hf1) (cwV 1 hts gX11_picked_X11_tableAt rfl rfl rfl (by decide +kernel) ⟨Nat.le_of_ble_eq_true rfl, Nat.le_of_ble_eq_true rfl⟩) (wp_V hK hN hP hD (va_recv hK hP (ci := 11) (q0 := 0) rfl (wG_of (Nat.lt_of_lt_of_le (Nat.le_of_ble_eq_true rfl : 0 < 182) (Nat.le_add_right _ _)) (cC_0 _ _ _ _ _)))) rfl rfl hl.1 rfl (lv_room (Nat.le_of_ble_eq_true rfl)) dX11_picked_2 ⟨Nat.le_of_ble_eq_true rfl, Nat.le_of_ble_eq_true rfl⟩) ?_
      refine lv_astoreN (lv' := [(4, .null), (0, .ref (ad 0)), (1, .int x1), (2, .int x2), (3, .int x3)]) hx hb dX11_picked_5 hl (by decide) rfl (fun ls hl => ?_)
      have hl := lv_sub hl [1, 2, 3, 4, 0] (l' := [(0, .ref (ad 0)), (1, .int x1), (2, .int x2), (3, .int x3), (4, .null)]) rfl
      refine lv_aloadN hx hb dX11_picked_7 (lv_at hl 4 rfl) ?_
      refine lv_ifnullN (tgt := 23) hx hb dX11_picked_9 (by decide) ?_
      refine lv_iconst (v := (-1)) hx hb dX11_picked_23 (by decide) ?_
      exact ux_iret hx hb hr h hP hD hS hlocks dX11_picked_24
    · have hb2 : b2 < nb := ux_tabB hτ hf1
      refine ux_callqS (va_runV (As := [.int x1]) (rest := []) ⟨hx, hb, hml, hown, hts⟩ (tX11_tableAt l dC dI cy ad τ nb hτ σ x1 H.size (some b2) hf1) (cwV 1 hts gX11_picked_X11_tableAt rfl rfl rfl (by decide +kernel) ⟨Nat.le_of_ble_eq_true rfl, Nat.le_of_ble_eq_true rfl⟩) (wp_V hK hN hP hD (va_recv hK hP (ci := 11) (q0 := 0) rfl (wG_of (Nat.lt_of_lt_of_le (Nat.le_of_ble_eq_true rfl : 0 < 182) (Nat.le_add_right _ _)) (cC_0 _ _ _ _ _)))) rfl rfl hl.1 rfl (lv_room (Nat.le_of_ble_eq_true rfl)) dX11_picked_2 ⟨Nat.le_of_ble_eq_true rfl, Nat.le_of_ble_eq_true rfl⟩) ?_
      refine lv_astore (lv' := [(4, .ref (ad (182 + 6 * b2))), (0, .ref (ad 0)), (1, .int x1), (2, .int x2), (3, .int x3)]) hx hb dX11_picked_5 hl (by decide) rfl (fun ls hl => ?_)
      have hl := lv_sub hl [1, 2, 3, 4, 0] (l' := [(0, .ref (ad 0)), (1, .int x1), (2, .int x2), (3, .int x3), (4, .ref (ad (182 + 6 * b2)))]) rfl
      refine lv_aload hx hb dX11_picked_7 (lv_at hl 4 rfl) ?_
      refine lv_ifnull hx hb dX11_picked_9 ?_
      refine lv_iload_n hx hb dX11_picked_12 rfl (lv_at hl 2 rfl) ?_
      obtain ⟨r3, hf4, h⟩ := biS h
      refine ux_calli (va_runS (As := [.int x2]) (rest := []) ⟨hx, hb, hml, hown, hts⟩ (tX11_isPlace l dC dI cy ad τ nb hτ σ x2 H.size r3 hf4) (va_cwS 1 hts gX11_picked_X11_isPlace rfl rfl rfl (by decide +kernel) ⟨Nat.le_of_ble_eq_true rfl, Nat.le_of_ble_eq_true rfl⟩) (wp_S hK hN hP hD) rfl rfl hl.1 rfl (lv_room (Nat.le_of_ble_eq_true rfl)) dX11_picked_13 ⟨Nat.le_of_ble_eq_true rfl, Nat.le_of_ble_eq_true rfl⟩) hD hS hA (fun H locs hP hD hS => ?_)
      refine lv_if_eq (tgt := 23) hx hb dX11_picked_16 (by decide) (fun hcd => ?_) (fun hcd => ?_)
      · have h := cdP hcd h
        refine lv_iconst (v := (-1)) hx hb dX11_picked_23 (by decide) ?_
        exact ux_iret hx hb hr h hP hD hS hlocks dX11_picked_24
      · have h := cdN hcd h
        refine lv_iload_n hx hb dX11_picked_19 rfl (lv_at hl 3 rfl) ?_
        refine lv_if_ge (tgt := 25) hx hb dX11_picked_20 (by decide) (fun hcd => ?_) (fun hcd => ?_)
        · have h := cdP hcd h
          refine lv_aload_n hx hb dX11_picked_25 rfl (lv_at hl 0 rfl) ?_
          refine ux_get (D := (dC, dI)) (ci := 11) (v := .ref (ad 14)) (C := RX11) (T := TX11) (M := 13) (fs := (oSR ad (σ.1 0))) hx hb hts (fun _ h9 => List.mem_cons_of_mem _ (List.mem_append_left _ (List.mem_append_left _ (List.mem_append_right _ h9)))) hown hK hP 0 (Nat.lt_of_lt_of_le (Nat.le_of_ble_eq_true rfl : 0 < 182) (Nat.le_add_right _ _)) (cC_0 _ _ _ _ _) rfl 4 (by decide) (hts (.fieldLink RX11 42 "SeatsRound" "choice" "LSeatsRound$Choice;") (List.mem_of_getElem? (i := 1) rfl)) (fun _ h9 => h9) rfl dX11_picked_26 ?_
          refine lv_aload hx hb dX11_picked_29 (lv_at hl 4 rfl) ?_
          refine lv_iload_n hx hb dX11_picked_31 rfl (lv_at hl 2 rfl) ?_
          obtain ⟨r5, σ6, hf7, h⟩ := bsS h
          refine ux_callv (va_runV (As := [.ref (ad (182 + 6 * b2)), .int x2]) (rest := []) ⟨hx, hb, hml, hown, hts⟩ (tX1_pick l dC dI cy ad τ nb hτ b2 (by omega) σ x2 H.size r5 σ6 hf7) (cwV 2 hts gX11_picked_X1_pick rfl rfl rfl (by decide +kernel) ⟨Nat.le_of_ble_eq_true rfl, Nat.le_of_ble_eq_true rfl⟩) (wp_V hK hN hP hD (va_recv hK hP (ci := 1) (q0 := 14) rfl (wG_of (Nat.lt_of_lt_of_le (Nat.le_of_ble_eq_true rfl : 14 < 182) (Nat.le_add_right _ _)) (cC_14 _ _ _ _ _)))) rfl rfl hl.1 rfl (lv_room (Nat.le_of_ble_eq_true rfl)) dX11_picked_32 ⟨Nat.le_of_ble_eq_true rfl, Nat.le_of_ble_eq_true rfl⟩) hD hS hA (fun H locs hP hD hS => ?_)
          refine lv_iload_n hx hb dX11_picked_35 rfl (lv_at hl 3 rfl) ?_
          refine lv_aload_n hx hb dX11_picked_36 rfl (lv_at hl 0 rfl) ?_
          refine ux_get (D := (dC, dI)) (ci := 11) (v := .ref (ad 14)) (C := RX11) (T := TX11) (M := 13) (fs := (oSR ad (σ6.1 0))) hx hb hts (fun _ h9 => List.mem_cons_of_mem _ (List.mem_append_left _ (List.mem_append_left _ (List.mem_append_right _ h9)))) hown hK hP 0 (Nat.lt_of_lt_of_le (Nat.le_of_ble_eq_true rfl : 0 < 182) (Nat.le_add_right _ _)) (cC_0 _ _ _ _ _) rfl 4 (by decide) (hts (.fieldLink RX11 42 "SeatsRound" "choice" "LSeatsRound$Choice;") (List.mem_of_getElem? (i := 1) rfl)) (fun _ h9 => h9) rfl dX11_picked_37 ?_
          refine ux_get (D := (dC, dI)) (ci := 1) (v := .int (σ6.1 14 2)) (C := RX1) (T := TX1) (M := 9) (fs := (oCH ad (σ6.1 14))) hx hb hts (fun _ h9 => List.mem_cons_of_mem _ (List.mem_append_left _ (List.mem_append_right _ h9))) hown hK hP 14 (Nat.lt_of_lt_of_le (Nat.le_of_ble_eq_true rfl : 14 < 182) (Nat.le_add_right _ _)) (cC_14 _ _ _ _ _) rfl 2 (by decide) (hts (.fieldLink RX11 225 "SeatsRound$Choice" "pickCount" "I") (List.mem_of_getElem? (i := 2) rfl)) (fun _ h9 => h9) rfl dX11_picked_40 ?_
          refine lv_icmp_ge (tgt := 58) hx hb dX11_picked_43 (by decide) (fun hcd => ?_) (fun hcd => ?_)
          · have h := cdP hcd h
            refine lv_iconst (v := (-1)) hx hb dX11_picked_58 (by decide) ?_
            exact ux_iret hx hb hr h hP hD hS hlocks dX11_picked_59
          · have h := cdN hcd h
            refine lv_aload_n hx hb dX11_picked_46 rfl (lv_at hl 0 rfl) ?_
            refine ux_get (D := (dC, dI)) (ci := 11) (v := .ref (ad 14)) (C := RX11) (T := TX11) (M := 13) (fs := (oSR ad (σ6.1 0))) hx hb hts (fun _ h9 => List.mem_cons_of_mem _ (List.mem_append_left _ (List.mem_append_left _ (List.mem_append_right _ h9)))) hown hK hP 0 (Nat.lt_of_lt_of_le (Nat.le_of_ble_eq_true rfl : 0 < 182) (Nat.le_add_right _ _)) (cC_0 _ _ _ _ _) rfl 4 (by decide) (hts (.fieldLink RX11 42 "SeatsRound" "choice" "LSeatsRound$Choice;") (List.mem_of_getElem? (i := 1) rfl)) (fun _ h9 => h9) rfl dX11_picked_47 ?_
            refine ux_get (D := (dC, dI)) (ci := 1) (v := .ref (ad 15)) (C := RX1) (T := TX1) (M := 9) (fs := (oCH ad (σ6.1 14))) hx hb hts (fun _ h9 => List.mem_cons_of_mem _ (List.mem_append_left _ (List.mem_append_right _ h9))) hown hK hP 14 (Nat.lt_of_lt_of_le (Nat.le_of_ble_eq_true rfl : 14 < 182) (Nat.le_add_right _ _)) (cC_14 _ _ _ _ _) rfl 0 (by decide) (hts (.fieldLink RX11 228 "SeatsRound$Choice" "picks" "[I") (List.mem_of_getElem? (i := 3) rfl)) (fun _ h9 => h9) rfl dX11_picked_50 ?_
            refine lv_iload_n hx hb dX11_picked_53 rfl (lv_at hl 3 rfl) ?_
            refine ux_iald hx hb hK hP 15 0 (Nat.lt_of_lt_of_le (Nat.le_of_ble_eq_true rfl : 15 < 182) (Nat.le_add_right _ _)) (cC_15 _ _ _ _ _) rfl h dX11_picked_54 (fun v8 h => ?_)
            refine lv_goto (tgt := 59) hx hb dX11_picked_55 (by decide) ?_
            exact ux_iret hx hb hr h hP hD hS hlocks dX11_picked_59
        · have h := cdN hcd h
          refine lv_iconst (v := (-1)) hx hb dX11_picked_23 (by decide) ?_
          exact ux_iret hx hb hr h hP hD hS hlocks dX11_picked_24
  intro H locs ls h hP hD hS hl
  exact w0 σ a1 a2 a3 H locs ls h hP hD hS (lv_sub hl [0, 1, 2, 3] rfl)

set_option maxHeartbeats 4000000 in
set_option maxRecDepth 100000 in
theorem tX11_keeperOf (l : Launch) (dC : Nat → ClassId) (dI : Nat → Nat → Nat) (cy : Nat → ClassId) (ad : Nat → Nat) (τ nb : Nat) (hτ : τ < nb) (σ : S2) (a1 : Int32) (a2 : Int32) (a3 : Int32) (sz : Nat) (r0 : Int32) (σ9 : S2) (h : fX11_keeperOf τ σ a1 a2 a3 = some (r0, σ9)) : Met l yX11_keeperOf wsX11_keeperOf ({ frames := 6, cells := 0, slots := 0, locals := 136 }) (va_Pc [.ref (ad 0), .int a1, .int a2, .int a3] (wPre (dC, dI) cy (wG (cC cy ad τ) ad (182 + 6 * nb) σ) sz)) (va_Qi (fun (r : Int32) (_ : Unit) => r = r0) (fun (_ : Unit) t => wAt (dC, dI) (va_A (wG (cC cy ad τ) ad (182 + 6 * nb) σ) sz) (wG (cC cy ad τ) ad (182 + 6 * nb) σ9) t) (va_A (wG (cC cy ad τ) ad (182 + 6 * nb) σ) sz)) 0 0 (va_A (wG (cC cy ad τ) ad (182 + 6 * nb) σ) sz) := by
  refine Met.ofW (cc := cX11_keeperOf) (maxL := 5) (ret := (some .int)) (by decide) rfl ?_
  intro p e s m args below meth c s₁ B hml hv
  obtain ⟨rfl, hsz, hP, hK, hD0, hN⟩ := hv
  have hx := B.exec
  have hb := B.bytes
  have hr := B.returns
  have hts := atoms_spec (ws := wsX11_keeperOf) B.pre
  have hown : s.vm.findClass RX11 = some m.cls := findClass_of_methodNamed B.named
  have hlocks := B.notSynchronized
  subst hsz
  have hD := hD0.self (sz := s.heap.size)
  generalize hAe : va_A (wG (cC cy ad τ) ad (182 + 6 * nb) σ) s.heap.size = A at hD ⊢
  have hA : ∀ q : Nat, s.heap.size ≤ q → A q := fun q h => by rw [← hAe]; exact Or.inr h
  have hS : va_S A s.heap s.heap [] := va_S.rf
  have hl := lv_entry ([.ref (ad 0), .int a1, .int a2, .int a3]) (n := 5) (Nat.le_of_ble_eq_true rfl)
  rw [lg_entry_eq]
  generalize (lg_sl ([.ref (ad 0), .int a1, .int a2, .int a3]) ++ List.replicate (5 - (lg_sl ([.ref (ad 0), .int a1, .int a2, .int a3])).length) Slot.unset).toArray = ls at hl ⊢
  have hl : lv_has ls 5 [(0, .ref (ad 0)), (1, .int a1), (2, .int a2), (3, .int a3)] := hl
  unfold fX11_keeperOf at h
  clear hAe hD0
  suffices HH : ∀ (H : Heap) (locs : List Loc) (ls : Array Slot), fX11_keeperOf_0 τ σ a1 a2 a3 = some (r0, σ9) → va_P (dC, dI) vwCl (wG (cC cy ad τ) ad (182 + 6 * nb) σ) H → va_D A (wG (cC cy ad τ) ad (182 + 6 * nb) σ) → va_S A s.heap H locs → lv_has ls 5 [(0, .ref (ad 0)), (1, .int a1), (2, .int a2), (3, .int a3)] → W p l e (headSpec wsX11_keeperOf ({ frames := 6, cells := 0, slots := 0, locals := 136 })).room s m (#[.ref (ad 0), .int a1, .int a2, .int a3]) below meth c H locs 0 0 (MQ below (va_Qi (fun (r : Int32) (_ : Unit) => r = r0) (fun (_ : Unit) t => wAt (dC, dI) A (wG (cC cy ad τ) ad (182 + 6 * nb) σ9) t) A) (#[.ref (ad 0), .int a1, .int a2, .int a3]) s 0 0 A) (F0 m 0 ls []) from HH s.heap [] ls h hP hD hS hl
  have w0 : ∀ (σ : S2) (x1 : Int32) (x2 : Int32) (x3 : Int32) (H : Heap) (locs : List Loc) (ls : Array Slot), fX11_keeperOf_0 τ σ x1 x2 x3 = some (r0, σ9) → va_P (dC, dI) vwCl (wG (cC cy ad τ) ad (182 + 6 * nb) σ) H → va_D A (wG (cC cy ad τ) ad (182 + 6 * nb) σ) → va_S A s.heap H locs → lv_has ls 5 [(0, .ref (ad 0)), (1, .int x1), (2, .int x2), (3, .int x3)] → W p l e (headSpec wsX11_keeperOf ({ frames := 6, cells := 0, slots := 0, locals := 136 })).room s m (#[.ref (ad 0), .int a1, .int a2, .int a3]) below meth c H locs 0 0 (MQ below (va_Qi (fun (r : Int32) (_ : Unit) => r = r0) (fun (_ : Unit) t => wAt (dC, dI) A (wG (cC cy ad τ) ad (182 + 6 * nb) σ9) t) A) (#[.ref (ad 0), .int a1, .int a2, .int a3]) s 0 0 A) (F0 m 0 ls []) := by
    intro σ x1 x2 x3 H locs ls h hP hD hS hl
    unfold fX11_keeperOf_0 at h
    refine lv_aload_n hx hb dX11_keeperOf_0 rfl (lv_at hl 0 rfl) ?_
    refine lv_iload_n hx hb dX11_keeperOf_1 rfl (lv_at hl 1 rfl) ?_
    rcases btS h with ⟨hf1, h⟩ | ⟨b2, hf1, h⟩
    · have _ := hτ
      refine ux_callqN (va_runV (As := [.int x1]) (rest := []) ⟨hx, hb, hml, hown, hts⟩ (tX11_tableAt l dC dI cy ad τ nb hτ σ x1 H.size none hf1) (cwV 1 hts gX11_keeperOf_X11_tableAt rfl rfl rfl (by decide +kernel) ⟨Nat.le_of_ble_eq_true rfl, Nat.le_of_ble_eq_true rfl⟩) (wp_V hK hN hP hD (va_recv hK hP (ci := 11) (q0 := 0) rfl (wG_of (Nat.lt_of_lt_of_le (Nat.le_of_ble_eq_true rfl : 0 < 182) (Nat.le_add_right _ _)) (cC_0 _ _ _ _ _)))) rfl rfl hl.1 rfl (lv_room (Nat.le_of_ble_eq_true rfl)) dX11_keeperOf_2 ⟨Nat.le_of_ble_eq_true rfl, Nat.le_of_ble_eq_true rfl⟩) ?_
      refine lv_astoreN (lv' := [(4, .null), (0, .ref (ad 0)), (1, .int x1), (2, .int x2), (3, .int x3)]) hx hb dX11_keeperOf_5 hl (by decide) rfl (fun ls hl => ?_)
      have hl := lv_sub hl [1, 2, 3, 4, 0] (l' := [(0, .ref (ad 0)), (1, .int x1), (2, .int x2), (3, .int x3), (4, .null)]) rfl
      refine lv_aloadN hx hb dX11_keeperOf_7 (lv_at hl 4 rfl) ?_
      refine lv_ifnullN (tgt := 28) hx hb dX11_keeperOf_9 (by decide) ?_
      refine lv_iconst (v := (-1)) hx hb dX11_keeperOf_28 (by decide) ?_
      exact ux_iret hx hb hr h hP hD hS hlocks dX11_keeperOf_29
    · have hb2 : b2 < nb := ux_tabB hτ hf1
      refine ux_callqS (va_runV (As := [.int x1]) (rest := []) ⟨hx, hb, hml, hown, hts⟩ (tX11_tableAt l dC dI cy ad τ nb hτ σ x1 H.size (some b2) hf1) (cwV 1 hts gX11_keeperOf_X11_tableAt rfl rfl rfl (by decide +kernel) ⟨Nat.le_of_ble_eq_true rfl, Nat.le_of_ble_eq_true rfl⟩) (wp_V hK hN hP hD (va_recv hK hP (ci := 11) (q0 := 0) rfl (wG_of (Nat.lt_of_lt_of_le (Nat.le_of_ble_eq_true rfl : 0 < 182) (Nat.le_add_right _ _)) (cC_0 _ _ _ _ _)))) rfl rfl hl.1 rfl (lv_room (Nat.le_of_ble_eq_true rfl)) dX11_keeperOf_2 ⟨Nat.le_of_ble_eq_true rfl, Nat.le_of_ble_eq_true rfl⟩) ?_
      refine lv_astore (lv' := [(4, .ref (ad (182 + 6 * b2))), (0, .ref (ad 0)), (1, .int x1), (2, .int x2), (3, .int x3)]) hx hb dX11_keeperOf_5 hl (by decide) rfl (fun ls hl => ?_)
      have hl := lv_sub hl [1, 2, 3, 4, 0] (l' := [(0, .ref (ad 0)), (1, .int x1), (2, .int x2), (3, .int x3), (4, .ref (ad (182 + 6 * b2)))]) rfl
      refine lv_aload hx hb dX11_keeperOf_7 (lv_at hl 4 rfl) ?_
      refine lv_ifnull hx hb dX11_keeperOf_9 ?_
      refine lv_aload_n hx hb dX11_keeperOf_12 rfl (lv_at hl 0 rfl) ?_
      refine ux_get (D := (dC, dI)) (ci := 11) (v := .ref (ad 3)) (C := RX11) (T := TX11) (M := 13) (fs := (oSR ad (σ.1 0))) hx hb hts (fun _ h9 => List.mem_cons_of_mem _ (List.mem_append_left _ (List.mem_append_left _ (List.mem_append_left _ (List.mem_append_left _ (List.mem_append_right _ h9)))))) hown hK hP 0 (Nat.lt_of_lt_of_le (Nat.le_of_ble_eq_true rfl : 0 < 182) (Nat.le_add_right _ _)) (cC_0 _ _ _ _ _) rfl 1 (by decide) (hts (.fieldLink RX11 19 "SeatsRound" "nameList" "LSeatsRound$NameList;") (List.mem_of_getElem? (i := 1) rfl)) (fun _ h9 => h9) rfl dX11_keeperOf_13 ?_
      refine lv_iload_n hx hb dX11_keeperOf_16 rfl (lv_at hl 2 rfl) ?_
      obtain ⟨r3, hf4, h⟩ := biS h
      refine ux_calli (va_runV (As := [.int x2]) (rest := []) ⟨hx, hb, hml, hown, hts⟩ (tX4_has l dC dI cy ad τ nb hτ σ x2 H.size r3 hf4) (cwV 1 hts gX11_keeperOf_X4_has rfl rfl rfl (by decide +kernel) ⟨Nat.le_of_ble_eq_true rfl, Nat.le_of_ble_eq_true rfl⟩) (wp_V hK hN hP hD (va_recv hK hP (ci := 4) (q0 := 3) rfl (wG_of (Nat.lt_of_lt_of_le (Nat.le_of_ble_eq_true rfl : 3 < 182) (Nat.le_add_right _ _)) (cC_3 _ _ _ _ _)))) rfl rfl hl.1 rfl (lv_room (Nat.le_of_ble_eq_true rfl)) dX11_keeperOf_17 ⟨Nat.le_of_ble_eq_true rfl, Nat.le_of_ble_eq_true rfl⟩) hD hS hA (fun H locs hP hD hS => ?_)
      refine lv_if_eq (tgt := 28) hx hb dX11_keeperOf_20 (by decide) (fun hcd => ?_) (fun hcd => ?_)
      · have h := cdP hcd h
        refine lv_iconst (v := (-1)) hx hb dX11_keeperOf_28 (by decide) ?_
        exact ux_iret hx hb hr h hP hD hS hlocks dX11_keeperOf_29
      · have h := cdN hcd h
        refine lv_iload_n hx hb dX11_keeperOf_23 rfl (lv_at hl 3 rfl) ?_
        refine lv_iconst (v := (-1)) hx hb dX11_keeperOf_24 (by decide) ?_
        refine lv_icmp_ge (tgt := 30) hx hb dX11_keeperOf_25 (by decide) (fun hcd => ?_) (fun hcd => ?_)
        · have h := cdP hcd h
          refine lv_aload_n hx hb dX11_keeperOf_30 rfl (lv_at hl 0 rfl) ?_
          refine ux_get (D := (dC, dI)) (ci := 11) (v := .ref (ad 14)) (C := RX11) (T := TX11) (M := 13) (fs := (oSR ad (σ.1 0))) hx hb hts (fun _ h9 => List.mem_cons_of_mem _ (List.mem_append_left _ (List.mem_append_left _ (List.mem_append_left _ (List.mem_append_left _ (List.mem_append_right _ h9)))))) hown hK hP 0 (Nat.lt_of_lt_of_le (Nat.le_of_ble_eq_true rfl : 0 < 182) (Nat.le_add_right _ _)) (cC_0 _ _ _ _ _) rfl 4 (by decide) (hts (.fieldLink RX11 42 "SeatsRound" "choice" "LSeatsRound$Choice;") (List.mem_of_getElem? (i := 2) rfl)) (fun _ h9 => h9) rfl dX11_keeperOf_31 ?_
          refine lv_aload hx hb dX11_keeperOf_34 (lv_at hl 4 rfl) ?_
          refine lv_aload_n hx hb dX11_keeperOf_36 rfl (lv_at hl 0 rfl) ?_
          refine ux_get (D := (dC, dI)) (ci := 11) (v := .ref (ad 3)) (C := RX11) (T := TX11) (M := 13) (fs := (oSR ad (σ.1 0))) hx hb hts (fun _ h9 => List.mem_cons_of_mem _ (List.mem_append_left _ (List.mem_append_left _ (List.mem_append_left _ (List.mem_append_left _ (List.mem_append_right _ h9)))))) hown hK hP 0 (Nat.lt_of_lt_of_le (Nat.le_of_ble_eq_true rfl : 0 < 182) (Nat.le_add_right _ _)) (cC_0 _ _ _ _ _) rfl 1 (by decide) (hts (.fieldLink RX11 19 "SeatsRound" "nameList" "LSeatsRound$NameList;") (List.mem_of_getElem? (i := 1) rfl)) (fun _ h9 => h9) rfl dX11_keeperOf_37 ?_
          refine lv_iload_n hx hb dX11_keeperOf_40 rfl (lv_at hl 2 rfl) ?_
          refine lv_aload hx hb dX11_keeperOf_41 (lv_at hl 4 rfl) ?_
          refine ux_get (D := (dC, dI)) (ci := 8) (v := .int (σ.1 (182 + 6 * b2) 1)) (C := RX8) (T := TX8) (M := 13) (fs := (oTB ad (182 + 6 * b2) (σ.1 (182 + 6 * b2)))) hx hb hts (fun _ h9 => List.mem_cons_of_mem _ (List.mem_append_left _ (List.mem_append_left _ (List.mem_append_left _ (List.mem_append_right _ h9))))) hown hK hP (182 + 6 * b2) (by omega) (cC_t0 _ _ _ _ _ b2) rfl 1 (by decide) (hts (.fieldLink RX11 231 "SeatsRound$Table" "turn" "I") (List.mem_of_getElem? (i := 3) rfl)) (fun _ h9 => h9) rfl dX11_keeperOf_43 ?_
          change W _ _ _ _ _ _ _ _ _ _ _ _ _ _ _ (F0 m 46 ls [.int (σ.1 (182 + 6 * b2) 1), .int x2, .ref (ad 3), .ref (ad (182 + 6 * b2)), .ref (ad 14)])
          obtain ⟨r5, hf6, h⟩ := biS h
          refine ux_calli (va_runV (As := [.int x2, .int (σ.1 (182 + 6 * b2) 1)]) (rest := [.ref (ad (182 + 6 * b2)), .ref (ad 14)]) ⟨hx, hb, hml, hown, hts⟩ (tX4_placeOf l dC dI cy ad τ nb hτ σ x2 (σ.1 (182 + 6 * b2) 1) H.size r5 hf6) (cwV 2 hts gX11_keeperOf_X4_placeOf rfl rfl rfl (by decide +kernel) ⟨Nat.le_of_ble_eq_true rfl, Nat.le_of_ble_eq_true rfl⟩) (wp_V hK hN hP hD (va_recv hK hP (ci := 4) (q0 := 3) rfl (wG_of (Nat.lt_of_lt_of_le (Nat.le_of_ble_eq_true rfl : 3 < 182) (Nat.le_add_right _ _)) (cC_3 _ _ _ _ _)))) rfl rfl hl.1 rfl (lv_room (Nat.le_of_ble_eq_true rfl)) dX11_keeperOf_46 ⟨Nat.le_of_ble_eq_true rfl, Nat.le_of_ble_eq_true rfl⟩) hD hS hA (fun H locs hP hD hS => ?_)
          obtain ⟨r7, σ8, hf9, h⟩ := bsS h
          refine ux_callv (va_runV (As := [.ref (ad (182 + 6 * b2)), .int r5]) (rest := []) ⟨hx, hb, hml, hown, hts⟩ (tX1_choose l dC dI cy ad τ nb hτ b2 (by omega) σ r5 H.size r7 σ8 hf9) (cwV 2 hts gX11_keeperOf_X1_choose rfl rfl rfl (by decide +kernel) ⟨Nat.le_of_ble_eq_true rfl, Nat.le_of_ble_eq_true rfl⟩) (wp_V hK hN hP hD (va_recv hK hP (ci := 1) (q0 := 14) rfl (wG_of (Nat.lt_of_lt_of_le (Nat.le_of_ble_eq_true rfl : 14 < 182) (Nat.le_add_right _ _)) (cC_14 _ _ _ _ _)))) rfl rfl hl.1 rfl (lv_room (Nat.le_of_ble_eq_true rfl)) dX11_keeperOf_49 ⟨Nat.le_of_ble_eq_true rfl, Nat.le_of_ble_eq_true rfl⟩) hD hS hA (fun H locs hP hD hS => ?_)
          refine lv_iload_n hx hb dX11_keeperOf_52 rfl (lv_at hl 3 rfl) ?_
          refine lv_iconst (v := (-1)) hx hb dX11_keeperOf_53 (by decide) ?_
          refine lv_icmp_ne (tgt := 65) hx hb dX11_keeperOf_54 (by decide) (fun hcd => ?_) (fun hcd => ?_)
          · have h := cdN hcd h
            refine lv_iload_n hx hb dX11_keeperOf_65 rfl (lv_at hl 3 rfl) ?_
            refine lv_aload_n hx hb dX11_keeperOf_66 rfl (lv_at hl 0 rfl) ?_
            refine ux_get (D := (dC, dI)) (ci := 11) (v := .ref (ad 14)) (C := RX11) (T := TX11) (M := 13) (fs := (oSR ad (σ8.1 0))) hx hb hts (fun _ h9 => List.mem_cons_of_mem _ (List.mem_append_left _ (List.mem_append_left _ (List.mem_append_left _ (List.mem_append_left _ (List.mem_append_right _ h9)))))) hown hK hP 0 (Nat.lt_of_lt_of_le (Nat.le_of_ble_eq_true rfl : 0 < 182) (Nat.le_add_right _ _)) (cC_0 _ _ _ _ _) rfl 4 (by decide) (hts (.fieldLink RX11 42 "SeatsRound" "choice" "LSeatsRound$Choice;") (List.mem_of_getElem? (i := 2) rfl)) (fun _ h9 => h9) rfl dX11_keeperOf_67 ?_
            refine ux_get (D := (dC, dI)) (ci := 1) (v := .int (σ8.1 14 3)) (C := RX1) (T := TX1) (M := 9) (fs := (oCH ad (σ8.1 14))) hx hb hts (fun _ h9 => List.mem_cons_of_mem _ (List.mem_append_left _ (List.mem_append_left _ (List.mem_append_right _ h9)))) hown hK hP 14 (Nat.lt_of_lt_of_le (Nat.le_of_ble_eq_true rfl : 14 < 182) (Nat.le_add_right _ _)) (cC_14 _ _ _ _ _) rfl 3 (by decide) (hts (.fieldLink RX11 237 "SeatsRound$Choice" "chosenCount" "I") (List.mem_of_getElem? (i := 4) rfl)) (fun _ h9 => h9) rfl dX11_keeperOf_70 ?_
            refine lv_icmp_ge (tgt := 88) hx hb dX11_keeperOf_73 (by decide) (fun hcd => ?_) (fun hcd => ?_)
            · have h := cdP hcd h
              refine lv_iconst (v := (-1)) hx hb dX11_keeperOf_88 (by decide) ?_
              exact ux_iret hx hb hr h hP hD hS hlocks dX11_keeperOf_89
            · have h := cdN hcd h
              refine lv_aload_n hx hb dX11_keeperOf_76 rfl (lv_at hl 0 rfl) ?_
              refine ux_get (D := (dC, dI)) (ci := 11) (v := .ref (ad 14)) (C := RX11) (T := TX11) (M := 13) (fs := (oSR ad (σ8.1 0))) hx hb hts (fun _ h9 => List.mem_cons_of_mem _ (List.mem_append_left _ (List.mem_append_left _ (List.mem_append_left _ (List.mem_append_left _ (List.mem_append_right _ h9)))))) hown hK hP 0 (Nat.lt_of_lt_of_le (Nat.le_of_ble_eq_true rfl : 0 < 182) (Nat.le_add_right _ _)) (cC_0 _ _ _ _ _) rfl 4 (by decide) (hts (.fieldLink RX11 42 "SeatsRound" "choice" "LSeatsRound$Choice;") (List.mem_of_getElem? (i := 2) rfl)) (fun _ h9 => h9) rfl dX11_keeperOf_77 ?_
              refine ux_get (D := (dC, dI)) (ci := 1) (v := .ref (ad 16)) (C := RX1) (T := TX1) (M := 9) (fs := (oCH ad (σ8.1 14))) hx hb hts (fun _ h9 => List.mem_cons_of_mem _ (List.mem_append_left _ (List.mem_append_left _ (List.mem_append_right _ h9)))) hown hK hP 14 (Nat.lt_of_lt_of_le (Nat.le_of_ble_eq_true rfl : 14 < 182) (Nat.le_add_right _ _)) (cC_14 _ _ _ _ _) rfl 1 (by decide) (hts (.fieldLink RX11 240 "SeatsRound$Choice" "chosen" "[I") (List.mem_of_getElem? (i := 5) rfl)) (fun _ h9 => h9) rfl dX11_keeperOf_80 ?_
              refine lv_iload_n hx hb dX11_keeperOf_83 rfl (lv_at hl 3 rfl) ?_
              refine ux_iald hx hb hK hP 16 0 (Nat.lt_of_lt_of_le (Nat.le_of_ble_eq_true rfl : 16 < 182) (Nat.le_add_right _ _)) (cC_16 _ _ _ _ _) rfl h dX11_keeperOf_84 (fun v10 h => ?_)
              refine lv_goto (tgt := 89) hx hb dX11_keeperOf_85 (by decide) ?_
              exact ux_iret hx hb hr h hP hD hS hlocks dX11_keeperOf_89
          · have h := cdP hcd h
            refine lv_aload_n hx hb dX11_keeperOf_57 rfl (lv_at hl 0 rfl) ?_
            refine ux_get (D := (dC, dI)) (ci := 11) (v := .ref (ad 14)) (C := RX11) (T := TX11) (M := 13) (fs := (oSR ad (σ8.1 0))) hx hb hts (fun _ h9 => List.mem_cons_of_mem _ (List.mem_append_left _ (List.mem_append_left _ (List.mem_append_left _ (List.mem_append_left _ (List.mem_append_right _ h9)))))) hown hK hP 0 (Nat.lt_of_lt_of_le (Nat.le_of_ble_eq_true rfl : 0 < 182) (Nat.le_add_right _ _)) (cC_0 _ _ _ _ _) rfl 4 (by decide) (hts (.fieldLink RX11 42 "SeatsRound" "choice" "LSeatsRound$Choice;") (List.mem_of_getElem? (i := 2) rfl)) (fun _ h9 => h9) rfl dX11_keeperOf_58 ?_
            refine ux_get (D := (dC, dI)) (ci := 1) (v := .int (σ8.1 14 3)) (C := RX1) (T := TX1) (M := 9) (fs := (oCH ad (σ8.1 14))) hx hb hts (fun _ h9 => List.mem_cons_of_mem _ (List.mem_append_left _ (List.mem_append_left _ (List.mem_append_right _ h9)))) hown hK hP 14 (Nat.lt_of_lt_of_le (Nat.le_of_ble_eq_true rfl : 14 < 182) (Nat.le_add_right _ _)) (cC_14 _ _ _ _ _) rfl 3 (by decide) (hts (.fieldLink RX11 237 "SeatsRound$Choice" "chosenCount" "I") (List.mem_of_getElem? (i := 4) rfl)) (fun _ h9 => h9) rfl dX11_keeperOf_61 ?_
            exact ux_iret hx hb hr h hP hD hS hlocks dX11_keeperOf_64
        · have h := cdN hcd h
          refine lv_iconst (v := (-1)) hx hb dX11_keeperOf_28 (by decide) ?_
          exact ux_iret hx hb hr h hP hD hS hlocks dX11_keeperOf_29
  intro H locs ls h hP hD hS hl
  exact w0 σ a1 a2 a3 H locs ls h hP hD hS (lv_sub hl [0, 1, 2, 3] rfl)

set_option maxHeartbeats 4000000 in
set_option maxRecDepth 100000 in
theorem tX11_tooFew (l : Launch) (dC : Nat → ClassId) (dI : Nat → Nat → Nat) (cy : Nat → ClassId) (ad : Nat → Nat) (τ nb : Nat) (hτ : τ < nb) (σ : S2) (a1 : Int32) (sz : Nat) (r0 : Int32) (σ9 : S2) (h : fX11_tooFew τ σ a1 = some (r0, σ9)) : Met l yX11_tooFew wsX11_tooFew ({ frames := 6, cells := 0, slots := 0, locals := 136 }) (va_Pc [.ref (ad 0), .int a1] (wPre (dC, dI) cy (wG (cC cy ad τ) ad (182 + 6 * nb) σ) sz)) (va_Qi (fun (r : Int32) (_ : Unit) => r = r0) (fun (_ : Unit) t => wAt (dC, dI) (va_A (wG (cC cy ad τ) ad (182 + 6 * nb) σ) sz) (wG (cC cy ad τ) ad (182 + 6 * nb) σ9) t) (va_A (wG (cC cy ad τ) ad (182 + 6 * nb) σ) sz)) 0 0 (va_A (wG (cC cy ad τ) ad (182 + 6 * nb) σ) sz) := by
  refine Met.ofW (cc := cX11_tooFew) (maxL := 5) (ret := (some .int)) (by decide) rfl ?_
  intro p e s m args below meth c s₁ B hml hv
  obtain ⟨rfl, hsz, hP, hK, hD0, hN⟩ := hv
  have hx := B.exec
  have hb := B.bytes
  have hr := B.returns
  have hts := atoms_spec (ws := wsX11_tooFew) B.pre
  have hown : s.vm.findClass RX11 = some m.cls := findClass_of_methodNamed B.named
  have hlocks := B.notSynchronized
  subst hsz
  have hD := hD0.self (sz := s.heap.size)
  generalize hAe : va_A (wG (cC cy ad τ) ad (182 + 6 * nb) σ) s.heap.size = A at hD ⊢
  have hA : ∀ q : Nat, s.heap.size ≤ q → A q := fun q h => by rw [← hAe]; exact Or.inr h
  have hS : va_S A s.heap s.heap [] := va_S.rf
  have hl := lv_entry ([.ref (ad 0), .int a1]) (n := 5) (Nat.le_of_ble_eq_true rfl)
  rw [lg_entry_eq]
  generalize (lg_sl ([.ref (ad 0), .int a1]) ++ List.replicate (5 - (lg_sl ([.ref (ad 0), .int a1])).length) Slot.unset).toArray = ls at hl ⊢
  have hl : lv_has ls 5 [(0, .ref (ad 0)), (1, .int a1)] := hl
  unfold fX11_tooFew at h
  clear hAe hD0
  suffices HH : ∀ (H : Heap) (locs : List Loc) (ls : Array Slot), fX11_tooFew_0 τ σ a1 = some (r0, σ9) → va_P (dC, dI) vwCl (wG (cC cy ad τ) ad (182 + 6 * nb) σ) H → va_D A (wG (cC cy ad τ) ad (182 + 6 * nb) σ) → va_S A s.heap H locs → lv_has ls 5 [(0, .ref (ad 0)), (1, .int a1)] → W p l e (headSpec wsX11_tooFew ({ frames := 6, cells := 0, slots := 0, locals := 136 })).room s m (#[.ref (ad 0), .int a1]) below meth c H locs 0 0 (MQ below (va_Qi (fun (r : Int32) (_ : Unit) => r = r0) (fun (_ : Unit) t => wAt (dC, dI) A (wG (cC cy ad τ) ad (182 + 6 * nb) σ9) t) A) (#[.ref (ad 0), .int a1]) s 0 0 A) (F0 m 0 ls []) from HH s.heap [] ls h hP hD hS hl
  have w70 : ∀ (k17 : S2 → Nat → Int32 → Int32 → Option (Int32 × S2)) (hk17 : ∀ (σ : S2) (x2 : Nat) (x3 : Int32) (x4 : Int32) (H : Heap) (locs : List Loc) (ls : Array Slot), x2 < nb → k17 σ x2 x3 x4 = some (r0, σ9) → va_P (dC, dI) vwCl (wG (cC cy ad τ) ad (182 + 6 * nb) σ) H → va_D A (wG (cC cy ad τ) ad (182 + 6 * nb) σ) → va_S A s.heap H locs → lv_has ls 5 [(0, .ref (ad 0)), (2, .ref (ad (182 + 6 * x2))), (3, .int x3), (4, .int x4)] → W p l e (headSpec wsX11_tooFew ({ frames := 6, cells := 0, slots := 0, locals := 136 })).room s m (#[.ref (ad 0), .int a1]) below meth c H locs 0 0 (MQ below (va_Qi (fun (r : Int32) (_ : Unit) => r = r0) (fun (_ : Unit) t => wAt (dC, dI) A (wG (cC cy ad τ) ad (182 + 6 * nb) σ9) t) A) (#[.ref (ad 0), .int a1]) s 0 0 A) (F0 m 17 ls [])) , ∀ (σ : S2) (x2 : Nat) (x3 : Int32) (x4 : Int32) (H : Heap) (locs : List Loc) (ls : Array Slot), x2 < nb → fX11_tooFew_70 τ k17 σ x2 x3 x4 = some (r0, σ9) → va_P (dC, dI) vwCl (wG (cC cy ad τ) ad (182 + 6 * nb) σ) H → va_D A (wG (cC cy ad τ) ad (182 + 6 * nb) σ) → va_S A s.heap H locs → lv_has ls 5 [(0, .ref (ad 0)), (2, .ref (ad (182 + 6 * x2))), (3, .int x3), (4, .int x4)] → W p l e (headSpec wsX11_tooFew ({ frames := 6, cells := 0, slots := 0, locals := 136 })).room s m (#[.ref (ad 0), .int a1]) below meth c H locs 0 0 (MQ below (va_Qi (fun (r : Int32) (_ : Unit) => r = r0) (fun (_ : Unit) t => wAt (dC, dI) A (wG (cC cy ad τ) ad (182 + 6 * nb) σ9) t) A) (#[.ref (ad 0), .int a1]) s 0 0 A) (F0 m 70 ls []) := by
    intro k17 hk17 σ x2 x3 x4 H locs ls hx2 h hP hD hS hl
    unfold fX11_tooFew_70 at h
    obtain ⟨v1, ev1⟩ : ∃ y : Int32, y = x4 + 1 := ⟨_, rfl⟩
    have h := nmS h ev1
    refine lv_iinc (v := v1) (lv' := [(4, .int v1), (0, .ref (ad 0)), (2, .ref (ad (182 + 6 * x2))), (3, .int x3)]) hx hb dX11_tooFew_70 hl (k := 3) rfl (by rw [ev1]; rfl) (by decide) rfl (fun ls hl => ?_)
    have hl := lv_sub hl [1, 2, 3, 0] (l' := [(0, .ref (ad 0)), (2, .ref (ad (182 + 6 * x2))), (3, .int x3), (4, .int v1)]) rfl
    refine lv_goto (tgt := 17) hx hb dX11_tooFew_73 (by decide) ?_
    exact hk17 σ x2 x3 v1 H locs ls (by omega) h hP hD hS hl
  have w17 : ∀ (n : Nat), ∀ (σ : S2) (x2 : Nat) (x3 : Int32) (x4 : Int32) (H : Heap) (locs : List Loc) (ls : Array Slot), x2 < nb → fX11_tooFew_17 τ n σ x2 x3 x4 = some (r0, σ9) → va_P (dC, dI) vwCl (wG (cC cy ad τ) ad (182 + 6 * nb) σ) H → va_D A (wG (cC cy ad τ) ad (182 + 6 * nb) σ) → va_S A s.heap H locs → lv_has ls 5 [(0, .ref (ad 0)), (2, .ref (ad (182 + 6 * x2))), (3, .int x3), (4, .int x4)] → W p l e (headSpec wsX11_tooFew ({ frames := 6, cells := 0, slots := 0, locals := 136 })).room s m (#[.ref (ad 0), .int a1]) below meth c H locs 0 0 (MQ below (va_Qi (fun (r : Int32) (_ : Unit) => r = r0) (fun (_ : Unit) t => wAt (dC, dI) A (wG (cC cy ad τ) ad (182 + 6 * nb) σ9) t) A) (#[.ref (ad 0), .int a1]) s 0 0 A) (F0 m 17 ls []) := by
    intro n
    induction n with
    | zero => intro σ x2 x3 x4 H locs ls hx2 h; cases h
    | succ n ih =>
    intro σ x2 x3 x4 H locs ls hx2 h hP hD hS hl
    unfold fX11_tooFew_17 at h
    refine lv_iload hx hb dX11_tooFew_17 (lv_at hl 3 rfl) ?_
    refine lv_aload_n hx hb dX11_tooFew_19 rfl (lv_at hl 0 rfl) ?_
    refine ux_get (D := (dC, dI)) (ci := 11) (v := .ref (ad 3)) (C := RX11) (T := TX11) (M := 13) (fs := (oSR ad (σ.1 0))) hx hb hts (fun _ h9 => List.mem_cons_of_mem _ (List.mem_append_left _ (List.mem_append_left _ (List.mem_append_left _ (List.mem_append_left _ (List.mem_append_right _ h9)))))) hown hK hP 0 (Nat.lt_of_lt_of_le (Nat.le_of_ble_eq_true rfl : 0 < 182) (Nat.le_add_right _ _)) (cC_0 _ _ _ _ _) rfl 1 (by decide) (hts (.fieldLink RX11 19 "SeatsRound" "nameList" "LSeatsRound$NameList;") (List.mem_of_getElem? (i := 1) rfl)) (fun _ h9 => h9) rfl dX11_tooFew_20 ?_
    refine ux_get (D := (dC, dI)) (ci := 4) (v := .int (σ.1 3 3)) (C := RX4) (T := TX4) (M := 4) (fs := (oNL ad (σ.1 3))) hx hb hts (fun _ h9 => List.mem_cons_of_mem _ (List.mem_append_left _ (List.mem_append_left _ (List.mem_append_left _ (List.mem_append_right _ h9))))) hown hK hP 3 (Nat.lt_of_lt_of_le (Nat.le_of_ble_eq_true rfl : 3 < 182) (Nat.le_add_right _ _)) (cC_3 _ _ _ _ _) rfl 3 (by decide) (hts (.fieldLink RX11 117 "SeatsRound$NameList" "count" "I") (List.mem_of_getElem? (i := 2) rfl)) (fun _ h9 => h9) rfl dX11_tooFew_23 ?_
    refine lv_icmp_ge (tgt := 76) hx hb dX11_tooFew_26 (by decide) (fun hcd => ?_) (fun hcd => ?_)
    · have h := cdP hcd h
      refine lv_iload_n hx hb dX11_tooFew_76 rfl (lv_at hl 2 rfl) ?_
      exact ux_iret hx hb hr h hP hD hS hlocks dX11_tooFew_77
    · have h := cdN hcd h
      refine lv_aload_n hx hb dX11_tooFew_29 rfl (lv_at hl 0 rfl) ?_
      refine ux_get (D := (dC, dI)) (ci := 11) (v := .ref (ad 14)) (C := RX11) (T := TX11) (M := 13) (fs := (oSR ad (σ.1 0))) hx hb hts (fun _ h9 => List.mem_cons_of_mem _ (List.mem_append_left _ (List.mem_append_left _ (List.mem_append_left _ (List.mem_append_left _ (List.mem_append_right _ h9)))))) hown hK hP 0 (Nat.lt_of_lt_of_le (Nat.le_of_ble_eq_true rfl : 0 < 182) (Nat.le_add_right _ _)) (cC_0 _ _ _ _ _) rfl 4 (by decide) (hts (.fieldLink RX11 42 "SeatsRound" "choice" "LSeatsRound$Choice;") (List.mem_of_getElem? (i := 3) rfl)) (fun _ h9 => h9) rfl dX11_tooFew_30 ?_
      refine lv_aload_n hx hb dX11_tooFew_33 rfl (lv_at hl 1 rfl) ?_
      refine lv_aload_n hx hb dX11_tooFew_34 rfl (lv_at hl 0 rfl) ?_
      refine ux_get (D := (dC, dI)) (ci := 11) (v := .ref (ad 3)) (C := RX11) (T := TX11) (M := 13) (fs := (oSR ad (σ.1 0))) hx hb hts (fun _ h9 => List.mem_cons_of_mem _ (List.mem_append_left _ (List.mem_append_left _ (List.mem_append_left _ (List.mem_append_left _ (List.mem_append_right _ h9)))))) hown hK hP 0 (Nat.lt_of_lt_of_le (Nat.le_of_ble_eq_true rfl : 0 < 182) (Nat.le_add_right _ _)) (cC_0 _ _ _ _ _) rfl 1 (by decide) (hts (.fieldLink RX11 19 "SeatsRound" "nameList" "LSeatsRound$NameList;") (List.mem_of_getElem? (i := 1) rfl)) (fun _ h9 => h9) rfl dX11_tooFew_35 ?_
      refine lv_iload hx hb dX11_tooFew_38 (lv_at hl 3 rfl) ?_
      refine lv_aload_n hx hb dX11_tooFew_40 rfl (lv_at hl 1 rfl) ?_
      refine ux_get (D := (dC, dI)) (ci := 8) (v := .int (σ.1 (182 + 6 * x2) 1)) (C := RX8) (T := TX8) (M := 13) (fs := (oTB ad (182 + 6 * x2) (σ.1 (182 + 6 * x2)))) hx hb hts (fun _ h9 => List.mem_cons_of_mem _ (List.mem_append_left _ (List.mem_append_left _ (List.mem_append_right _ h9)))) hown hK hP (182 + 6 * x2) (by omega) (cC_t0 _ _ _ _ _ x2) rfl 1 (by decide) (hts (.fieldLink RX11 231 "SeatsRound$Table" "turn" "I") (List.mem_of_getElem? (i := 4) rfl)) (fun _ h9 => h9) rfl dX11_tooFew_41 ?_
      change W _ _ _ _ _ _ _ _ _ _ _ _ _ _ _ (F0 m 44 ls [.int (σ.1 (182 + 6 * x2) 1), .int x4, .ref (ad 3), .ref (ad (182 + 6 * x2)), .ref (ad 14)])
      obtain ⟨r2, hf3, h⟩ := biS h
      refine ux_calli (va_runV (As := [.int x4, .int (σ.1 (182 + 6 * x2) 1)]) (rest := [.ref (ad (182 + 6 * x2)), .ref (ad 14)]) ⟨hx, hb, hml, hown, hts⟩ (tX4_placeOf l dC dI cy ad τ nb hτ σ x4 (σ.1 (182 + 6 * x2) 1) H.size r2 hf3) (cwV 2 hts gX11_tooFew_X4_placeOf rfl rfl rfl (by decide +kernel) ⟨Nat.le_of_ble_eq_true rfl, Nat.le_of_ble_eq_true rfl⟩) (wp_V hK hN hP hD (va_recv hK hP (ci := 4) (q0 := 3) rfl (wG_of (Nat.lt_of_lt_of_le (Nat.le_of_ble_eq_true rfl : 3 < 182) (Nat.le_add_right _ _)) (cC_3 _ _ _ _ _)))) rfl rfl hl.1 rfl (lv_room (Nat.le_of_ble_eq_true rfl)) dX11_tooFew_44 ⟨Nat.le_of_ble_eq_true rfl, Nat.le_of_ble_eq_true rfl⟩) hD hS hA (fun H locs hP hD hS => ?_)
      obtain ⟨r4, σ5, hf6, h⟩ := bsS h
      refine ux_callv (va_runV (As := [.ref (ad (182 + 6 * x2)), .int r2]) (rest := []) ⟨hx, hb, hml, hown, hts⟩ (tX1_choose l dC dI cy ad τ nb hτ x2 (by omega) σ r2 H.size r4 σ5 hf6) (cwV 2 hts gX11_tooFew_X1_choose rfl rfl rfl (by decide +kernel) ⟨Nat.le_of_ble_eq_true rfl, Nat.le_of_ble_eq_true rfl⟩) (wp_V hK hN hP hD (va_recv hK hP (ci := 1) (q0 := 14) rfl (wG_of (Nat.lt_of_lt_of_le (Nat.le_of_ble_eq_true rfl : 14 < 182) (Nat.le_add_right _ _)) (cC_14 _ _ _ _ _)))) rfl rfl hl.1 rfl (lv_room (Nat.le_of_ble_eq_true rfl)) dX11_tooFew_47 ⟨Nat.le_of_ble_eq_true rfl, Nat.le_of_ble_eq_true rfl⟩) hD hS hA (fun H locs hP hD hS => ?_)
      refine lv_aload_n hx hb dX11_tooFew_50 rfl (lv_at hl 0 rfl) ?_
      refine ux_get (D := (dC, dI)) (ci := 11) (v := .ref (ad 14)) (C := RX11) (T := TX11) (M := 13) (fs := (oSR ad (σ5.1 0))) hx hb hts (fun _ h9 => List.mem_cons_of_mem _ (List.mem_append_left _ (List.mem_append_left _ (List.mem_append_left _ (List.mem_append_left _ (List.mem_append_right _ h9)))))) hown hK hP 0 (Nat.lt_of_lt_of_le (Nat.le_of_ble_eq_true rfl : 0 < 182) (Nat.le_add_right _ _)) (cC_0 _ _ _ _ _) rfl 4 (by decide) (hts (.fieldLink RX11 42 "SeatsRound" "choice" "LSeatsRound$Choice;") (List.mem_of_getElem? (i := 3) rfl)) (fun _ h9 => h9) rfl dX11_tooFew_51 ?_
      refine ux_get (D := (dC, dI)) (ci := 1) (v := .int (σ5.1 14 5)) (C := RX1) (T := TX1) (M := 9) (fs := (oCH ad (σ5.1 14))) hx hb hts (fun _ h9 => List.mem_cons_of_mem _ (List.mem_append_left _ (List.mem_append_right _ h9))) hown hK hP 14 (Nat.lt_of_lt_of_le (Nat.le_of_ble_eq_true rfl : 14 < 182) (Nat.le_add_right _ _)) (cC_14 _ _ _ _ _) rfl 5 (by decide) (hts (.fieldLink RX11 243 "SeatsRound$Choice" "streetBits" "I") (List.mem_of_getElem? (i := 5) rfl)) (fun _ h9 => h9) rfl dX11_tooFew_54 ?_
      obtain ⟨r7, hf8, h⟩ := biS h
      refine ux_calli (va_runS (As := [.int (σ5.1 14 5)]) (rest := []) ⟨hx, hb, hml, hown, hts⟩ (tJ6_bitCount_0f7a4 l dC dI cy ad τ nb hτ σ5 (σ5.1 14 5) H.size r7 hf8) (va_cwS 1 hts gX11_tooFew_J6_bitCount_0f7a4 rfl rfl rfl (by decide +kernel) ⟨Nat.le_of_ble_eq_true rfl, Nat.le_of_ble_eq_true rfl⟩) (wp_S hK hN hP hD) rfl rfl hl.1 rfl (lv_room (Nat.le_of_ble_eq_true rfl)) dX11_tooFew_57 ⟨Nat.le_of_ble_eq_true rfl, Nat.le_of_ble_eq_true rfl⟩) hD hS hA (fun H locs hP hD hS => ?_)
      refine lv_aload_n hx hb dX11_tooFew_60 rfl (lv_at hl 1 rfl) ?_
      refine ux_get (D := (dC, dI)) (ci := 8) (v := .int (σ5.1 (182 + 6 * x2) 3)) (C := RX8) (T := TX8) (M := 13) (fs := (oTB ad (182 + 6 * x2) (σ5.1 (182 + 6 * x2)))) hx hb hts (fun _ h9 => List.mem_cons_of_mem _ (List.mem_append_left _ (List.mem_append_left _ (List.mem_append_right _ h9)))) hown hK hP (182 + 6 * x2) (by omega) (cC_t0 _ _ _ _ _ x2) rfl 3 (by decide) (hts (.fieldLink RX11 205 "SeatsRound$Table" "streets" "I") (List.mem_of_getElem? (i := 6) rfl)) (fun _ h9 => h9) rfl dX11_tooFew_61 ?_
      refine lv_icmp_ge (tgt := 70) hx hb dX11_tooFew_64 (by decide) (fun hcd => ?_) (fun hcd => ?_)
      · have h := cdP hcd h
        exact w70 _ ih σ5 x2 x3 x4 H locs ls (by omega) h hP hD hS hl
      · have h := cdN hcd h
        obtain ⟨v9, ev9⟩ : ∃ y : Int32, y = x3 + 1 := ⟨_, rfl⟩
        have h := nmS h ev9
        refine lv_iinc (v := v9) (lv' := [(3, .int v9), (0, .ref (ad 0)), (2, .ref (ad (182 + 6 * x2))), (4, .int x4)]) hx hb dX11_tooFew_67 hl (k := 2) rfl (by rw [ev9]; rfl) (by decide) rfl (fun ls hl => ?_)
        have hl := lv_sub hl [1, 2, 0, 3] (l' := [(0, .ref (ad 0)), (2, .ref (ad (182 + 6 * x2))), (3, .int v9), (4, .int x4)]) rfl
        exact w70 _ ih σ5 x2 v9 x4 H locs ls (by omega) h hP hD hS hl
  have w0 : ∀ (σ : S2) (x1 : Int32) (H : Heap) (locs : List Loc) (ls : Array Slot), fX11_tooFew_0 τ σ x1 = some (r0, σ9) → va_P (dC, dI) vwCl (wG (cC cy ad τ) ad (182 + 6 * nb) σ) H → va_D A (wG (cC cy ad τ) ad (182 + 6 * nb) σ) → va_S A s.heap H locs → lv_has ls 5 [(0, .ref (ad 0)), (1, .int x1)] → W p l e (headSpec wsX11_tooFew ({ frames := 6, cells := 0, slots := 0, locals := 136 })).room s m (#[.ref (ad 0), .int a1]) below meth c H locs 0 0 (MQ below (va_Qi (fun (r : Int32) (_ : Unit) => r = r0) (fun (_ : Unit) t => wAt (dC, dI) A (wG (cC cy ad τ) ad (182 + 6 * nb) σ9) t) A) (#[.ref (ad 0), .int a1]) s 0 0 A) (F0 m 0 ls []) := by
    intro σ x1 H locs ls h hP hD hS hl
    unfold fX11_tooFew_0 at h
    refine lv_aload_n hx hb dX11_tooFew_0 rfl (lv_at hl 0 rfl) ?_
    refine lv_iload_n hx hb dX11_tooFew_1 rfl (lv_at hl 1 rfl) ?_
    rcases btS h with ⟨hf10, h⟩ | ⟨b11, hf10, h⟩
    · have _ := hτ
      refine ux_callqN (va_runV (As := [.int x1]) (rest := []) ⟨hx, hb, hml, hown, hts⟩ (tX11_tableAt l dC dI cy ad τ nb hτ σ x1 H.size none hf10) (cwV 1 hts gX11_tooFew_X11_tableAt rfl rfl rfl (by decide +kernel) ⟨Nat.le_of_ble_eq_true rfl, Nat.le_of_ble_eq_true rfl⟩) (wp_V hK hN hP hD (va_recv hK hP (ci := 11) (q0 := 0) rfl (wG_of (Nat.lt_of_lt_of_le (Nat.le_of_ble_eq_true rfl : 0 < 182) (Nat.le_add_right _ _)) (cC_0 _ _ _ _ _)))) rfl rfl hl.1 rfl (lv_room (Nat.le_of_ble_eq_true rfl)) dX11_tooFew_2 ⟨Nat.le_of_ble_eq_true rfl, Nat.le_of_ble_eq_true rfl⟩) ?_
      refine lv_astore_nN (lv' := [(2, .null), (0, .ref (ad 0)), (1, .int x1)]) hx hb dX11_tooFew_5 rfl hl (by decide) rfl (fun ls hl => ?_)
      have hl := lv_sub hl [1, 2, 0] (l' := [(0, .ref (ad 0)), (1, .int x1), (2, .null)]) rfl
      refine lv_aload_nN hx hb dX11_tooFew_6 rfl (lv_at hl 2 rfl) ?_
      refine lv_ifnonnullN hx hb dX11_tooFew_7 ?_
      refine lv_iconst (v := (-1)) hx hb dX11_tooFew_10 (by decide) ?_
      exact ux_iret hx hb hr h hP hD hS hlocks dX11_tooFew_11
    · have hb11 : b11 < nb := ux_tabB hτ hf10
      refine ux_callqS (va_runV (As := [.int x1]) (rest := []) ⟨hx, hb, hml, hown, hts⟩ (tX11_tableAt l dC dI cy ad τ nb hτ σ x1 H.size (some b11) hf10) (cwV 1 hts gX11_tooFew_X11_tableAt rfl rfl rfl (by decide +kernel) ⟨Nat.le_of_ble_eq_true rfl, Nat.le_of_ble_eq_true rfl⟩) (wp_V hK hN hP hD (va_recv hK hP (ci := 11) (q0 := 0) rfl (wG_of (Nat.lt_of_lt_of_le (Nat.le_of_ble_eq_true rfl : 0 < 182) (Nat.le_add_right _ _)) (cC_0 _ _ _ _ _)))) rfl rfl hl.1 rfl (lv_room (Nat.le_of_ble_eq_true rfl)) dX11_tooFew_2 ⟨Nat.le_of_ble_eq_true rfl, Nat.le_of_ble_eq_true rfl⟩) ?_
      refine lv_astore_n (lv' := [(2, .ref (ad (182 + 6 * b11))), (0, .ref (ad 0)), (1, .int x1)]) hx hb dX11_tooFew_5 rfl hl (by decide) rfl (fun ls hl => ?_)
      have hl := lv_sub hl [1, 2, 0] (l' := [(0, .ref (ad 0)), (1, .int x1), (2, .ref (ad (182 + 6 * b11)))]) rfl
      refine lv_aload_n hx hb dX11_tooFew_6 rfl (lv_at hl 2 rfl) ?_
      refine lv_ifnonnull (tgt := 12) hx hb dX11_tooFew_7 (by decide) ?_
      refine lv_iconst (v := 0) hx hb dX11_tooFew_12 (by decide) ?_
      refine lv_istore_n (lv' := [(3, .int 0), (0, .ref (ad 0)), (1, .int x1), (2, .ref (ad (182 + 6 * b11)))]) hx hb dX11_tooFew_13 rfl hl (by decide) rfl (fun ls hl => ?_)
      have hl := lv_sub hl [1, 2, 3, 0] (l' := [(0, .ref (ad 0)), (1, .int x1), (2, .ref (ad (182 + 6 * b11))), (3, .int 0)]) rfl
      refine lv_iconst (v := 0) hx hb dX11_tooFew_14 (by decide) ?_
      refine lv_istore (lv' := [(4, .int 0), (0, .ref (ad 0)), (1, .int x1), (2, .ref (ad (182 + 6 * b11))), (3, .int 0)]) hx hb dX11_tooFew_15 hl (by decide) rfl (fun ls hl => ?_)
      have hl := lv_sub hl [1, 2, 3, 4, 0] (l' := [(0, .ref (ad 0)), (1, .int x1), (2, .ref (ad (182 + 6 * b11))), (3, .int 0), (4, .int 0)]) rfl
      exact w17 FU σ b11 0 0 H locs ls (by omega) h hP hD hS (lv_sub hl [0, 2, 3, 4] rfl)
  intro H locs ls h hP hD hS hl
  exact w0 σ a1 H locs ls h hP hD hS (lv_sub hl [0, 1] rfl)

set_option maxHeartbeats 4000000 in
set_option maxRecDepth 100000 in
theorem tX11_share (l : Launch) (dC : Nat → ClassId) (dI : Nat → Nat → Nat) (cy : Nat → ClassId) (ad : Nat → Nat) (τ nb : Nat) (hτ : τ < nb) (σ : S2) (a1 : Int32) (a2 : Int32) (a3 : Int32) (sz : Nat) (r0 : Int32) (σ9 : S2) (h : fX11_share τ σ a1 a2 a3 = some (r0, σ9)) : Met l yX11_share wsX11_share ({ frames := 5, cells := 0, slots := 0, locals := 112 }) (va_Pc [.ref (ad 0), .int a1, .int a2, .int a3] (wPre (dC, dI) cy (wG (cC cy ad τ) ad (182 + 6 * nb) σ) sz)) (va_Qi (fun (r : Int32) (_ : Unit) => r = r0) (fun (_ : Unit) t => wAt (dC, dI) (va_A (wG (cC cy ad τ) ad (182 + 6 * nb) σ) sz) (wG (cC cy ad τ) ad (182 + 6 * nb) σ9) t) (va_A (wG (cC cy ad τ) ad (182 + 6 * nb) σ) sz)) 0 0 (va_A (wG (cC cy ad τ) ad (182 + 6 * nb) σ) sz) := by
  refine Met.ofW (cc := cX11_share) (maxL := 7) (ret := (some .int)) (by decide) rfl ?_
  intro p e s m args below meth c s₁ B hml hv
  obtain ⟨rfl, hsz, hP, hK, hD0, hN⟩ := hv
  have hx := B.exec
  have hb := B.bytes
  have hr := B.returns
  have hts := atoms_spec (ws := wsX11_share) B.pre
  have hown : s.vm.findClass RX11 = some m.cls := findClass_of_methodNamed B.named
  have hlocks := B.notSynchronized
  subst hsz
  have hD := hD0.self (sz := s.heap.size)
  generalize hAe : va_A (wG (cC cy ad τ) ad (182 + 6 * nb) σ) s.heap.size = A at hD ⊢
  have hA : ∀ q : Nat, s.heap.size ≤ q → A q := fun q h => by rw [← hAe]; exact Or.inr h
  have hS : va_S A s.heap s.heap [] := va_S.rf
  have hl := lv_entry ([.ref (ad 0), .int a1, .int a2, .int a3]) (n := 7) (Nat.le_of_ble_eq_true rfl)
  rw [lg_entry_eq]
  generalize (lg_sl ([.ref (ad 0), .int a1, .int a2, .int a3]) ++ List.replicate (7 - (lg_sl ([.ref (ad 0), .int a1, .int a2, .int a3])).length) Slot.unset).toArray = ls at hl ⊢
  have hl : lv_has ls 7 [(0, .ref (ad 0)), (1, .int a1), (2, .int a2), (3, .int a3)] := hl
  unfold fX11_share at h
  clear hAe hD0
  suffices HH : ∀ (H : Heap) (locs : List Loc) (ls : Array Slot), fX11_share_0 τ σ a1 a2 a3 = some (r0, σ9) → va_P (dC, dI) vwCl (wG (cC cy ad τ) ad (182 + 6 * nb) σ) H → va_D A (wG (cC cy ad τ) ad (182 + 6 * nb) σ) → va_S A s.heap H locs → lv_has ls 7 [(0, .ref (ad 0)), (1, .int a1), (2, .int a2), (3, .int a3)] → W p l e (headSpec wsX11_share ({ frames := 5, cells := 0, slots := 0, locals := 112 })).room s m (#[.ref (ad 0), .int a1, .int a2, .int a3]) below meth c H locs 0 0 (MQ below (va_Qi (fun (r : Int32) (_ : Unit) => r = r0) (fun (_ : Unit) t => wAt (dC, dI) A (wG (cC cy ad τ) ad (182 + 6 * nb) σ9) t) A) (#[.ref (ad 0), .int a1, .int a2, .int a3]) s 0 0 A) (F0 m 0 ls []) from HH s.heap [] ls h hP hD hS hl
  have w96 : ∀ (k58 : S2 → Int32 → Nat → Int32 → Int32 → Option (Int32 × S2)) (hk58 : ∀ (σ : S2) (x2 : Int32) (x4 : Nat) (x5 : Int32) (x6 : Int32) (H : Heap) (locs : List Loc) (ls : Array Slot), x4 < nb → k58 σ x2 x4 x5 x6 = some (r0, σ9) → va_P (dC, dI) vwCl (wG (cC cy ad τ) ad (182 + 6 * nb) σ) H → va_D A (wG (cC cy ad τ) ad (182 + 6 * nb) σ) → va_S A s.heap H locs → lv_has ls 7 [(0, .ref (ad 0)), (2, .int x2), (4, .ref (ad (182 + 6 * x4))), (5, .int x5), (6, .int x6)] → W p l e (headSpec wsX11_share ({ frames := 5, cells := 0, slots := 0, locals := 112 })).room s m (#[.ref (ad 0), .int a1, .int a2, .int a3]) below meth c H locs 0 0 (MQ below (va_Qi (fun (r : Int32) (_ : Unit) => r = r0) (fun (_ : Unit) t => wAt (dC, dI) A (wG (cC cy ad τ) ad (182 + 6 * nb) σ9) t) A) (#[.ref (ad 0), .int a1, .int a2, .int a3]) s 0 0 A) (F0 m 58 ls [])) , ∀ (σ : S2) (x2 : Int32) (x4 : Nat) (x5 : Int32) (x6 : Int32) (H : Heap) (locs : List Loc) (ls : Array Slot), x4 < nb → fX11_share_96 τ k58 σ x2 x4 x5 x6 = some (r0, σ9) → va_P (dC, dI) vwCl (wG (cC cy ad τ) ad (182 + 6 * nb) σ) H → va_D A (wG (cC cy ad τ) ad (182 + 6 * nb) σ) → va_S A s.heap H locs → lv_has ls 7 [(0, .ref (ad 0)), (2, .int x2), (4, .ref (ad (182 + 6 * x4))), (5, .int x5), (6, .int x6)] → W p l e (headSpec wsX11_share ({ frames := 5, cells := 0, slots := 0, locals := 112 })).room s m (#[.ref (ad 0), .int a1, .int a2, .int a3]) below meth c H locs 0 0 (MQ below (va_Qi (fun (r : Int32) (_ : Unit) => r = r0) (fun (_ : Unit) t => wAt (dC, dI) A (wG (cC cy ad τ) ad (182 + 6 * nb) σ9) t) A) (#[.ref (ad 0), .int a1, .int a2, .int a3]) s 0 0 A) (F0 m 96 ls []) := by
    intro k58 hk58 σ x2 x4 x5 x6 H locs ls hx4 h hP hD hS hl
    unfold fX11_share_96 at h
    obtain ⟨v1, ev1⟩ : ∃ y : Int32, y = x6 + 1 := ⟨_, rfl⟩
    have h := nmS h ev1
    refine lv_iinc (v := v1) (lv' := [(6, .int v1), (0, .ref (ad 0)), (2, .int x2), (4, .ref (ad (182 + 6 * x4))), (5, .int x5)]) hx hb dX11_share_96 hl (k := 4) rfl (by rw [ev1]; rfl) (by decide) rfl (fun ls hl => ?_)
    have hl := lv_sub hl [1, 2, 3, 4, 0] (l' := [(0, .ref (ad 0)), (2, .int x2), (4, .ref (ad (182 + 6 * x4))), (5, .int x5), (6, .int v1)]) rfl
    refine lv_goto (tgt := 58) hx hb dX11_share_99 (by decide) ?_
    exact hk58 σ x2 x4 x5 v1 H locs ls (by omega) h hP hD hS hl
  have w58 : ∀ (n : Nat), ∀ (σ : S2) (x2 : Int32) (x4 : Nat) (x5 : Int32) (x6 : Int32) (H : Heap) (locs : List Loc) (ls : Array Slot), x4 < nb → fX11_share_58 τ n σ x2 x4 x5 x6 = some (r0, σ9) → va_P (dC, dI) vwCl (wG (cC cy ad τ) ad (182 + 6 * nb) σ) H → va_D A (wG (cC cy ad τ) ad (182 + 6 * nb) σ) → va_S A s.heap H locs → lv_has ls 7 [(0, .ref (ad 0)), (2, .int x2), (4, .ref (ad (182 + 6 * x4))), (5, .int x5), (6, .int x6)] → W p l e (headSpec wsX11_share ({ frames := 5, cells := 0, slots := 0, locals := 112 })).room s m (#[.ref (ad 0), .int a1, .int a2, .int a3]) below meth c H locs 0 0 (MQ below (va_Qi (fun (r : Int32) (_ : Unit) => r = r0) (fun (_ : Unit) t => wAt (dC, dI) A (wG (cC cy ad τ) ad (182 + 6 * nb) σ9) t) A) (#[.ref (ad 0), .int a1, .int a2, .int a3]) s 0 0 A) (F0 m 58 ls []) := by
    intro n
    induction n with
    | zero => intro σ x2 x4 x5 x6 H locs ls hx4 h; cases h
    | succ n ih =>
    intro σ x2 x4 x5 x6 H locs ls hx4 h hP hD hS hl
    unfold fX11_share_58 at h
    refine lv_iload hx hb dX11_share_58 (lv_at hl 4 rfl) ?_
    refine lv_aload_n hx hb dX11_share_60 rfl (lv_at hl 0 rfl) ?_
    refine ux_get (D := (dC, dI)) (ci := 11) (v := .ref (ad 3)) (C := RX11) (T := TX11) (M := 13) (fs := (oSR ad (σ.1 0))) hx hb hts (fun _ h9 => List.mem_cons_of_mem _ (List.mem_append_left _ (List.mem_append_left _ (List.mem_append_left _ (List.mem_append_right _ h9))))) hown hK hP 0 (Nat.lt_of_lt_of_le (Nat.le_of_ble_eq_true rfl : 0 < 182) (Nat.le_add_right _ _)) (cC_0 _ _ _ _ _) rfl 1 (by decide) (hts (.fieldLink RX11 19 "SeatsRound" "nameList" "LSeatsRound$NameList;") (List.mem_of_getElem? (i := 3) rfl)) (fun _ h9 => h9) rfl dX11_share_61 ?_
    refine ux_get (D := (dC, dI)) (ci := 4) (v := .int (σ.1 3 3)) (C := RX4) (T := TX4) (M := 4) (fs := (oNL ad (σ.1 3))) hx hb hts (fun _ h9 => List.mem_cons_of_mem _ (List.mem_append_left _ (List.mem_append_right _ h9))) hown hK hP 3 (Nat.lt_of_lt_of_le (Nat.le_of_ble_eq_true rfl : 3 < 182) (Nat.le_add_right _ _)) (cC_3 _ _ _ _ _) rfl 3 (by decide) (hts (.fieldLink RX11 117 "SeatsRound$NameList" "count" "I") (List.mem_of_getElem? (i := 4) rfl)) (fun _ h9 => h9) rfl dX11_share_64 ?_
    refine lv_icmp_ge (tgt := 102) hx hb dX11_share_67 (by decide) (fun hcd => ?_) (fun hcd => ?_)
    · have h := cdP hcd h
      refine lv_iload hx hb dX11_share_102 (lv_at hl 3 rfl) ?_
      exact ux_iret hx hb hr h hP hD hS hlocks dX11_share_104
    · have h := cdN hcd h
      refine lv_aload hx hb dX11_share_70 (lv_at hl 2 rfl) ?_
      refine lv_aload_n hx hb dX11_share_72 rfl (lv_at hl 0 rfl) ?_
      refine ux_get (D := (dC, dI)) (ci := 11) (v := .ref (ad 3)) (C := RX11) (T := TX11) (M := 13) (fs := (oSR ad (σ.1 0))) hx hb hts (fun _ h9 => List.mem_cons_of_mem _ (List.mem_append_left _ (List.mem_append_left _ (List.mem_append_left _ (List.mem_append_right _ h9))))) hown hK hP 0 (Nat.lt_of_lt_of_le (Nat.le_of_ble_eq_true rfl : 0 < 182) (Nat.le_add_right _ _)) (cC_0 _ _ _ _ _) rfl 1 (by decide) (hts (.fieldLink RX11 19 "SeatsRound" "nameList" "LSeatsRound$NameList;") (List.mem_of_getElem? (i := 3) rfl)) (fun _ h9 => h9) rfl dX11_share_73 ?_
      refine lv_iload hx hb dX11_share_76 (lv_at hl 4 rfl) ?_
      refine lv_aload hx hb dX11_share_78 (lv_at hl 2 rfl) ?_
      refine ux_get (D := (dC, dI)) (ci := 8) (v := .int (σ.1 (182 + 6 * x4) 1)) (C := RX8) (T := TX8) (M := 13) (fs := (oTB ad (182 + 6 * x4) (σ.1 (182 + 6 * x4)))) hx hb hts (fun _ h9 => List.mem_cons_of_mem _ (List.mem_append_left _ (List.mem_append_left _ (List.mem_append_right _ h9)))) hown hK hP (182 + 6 * x4) (by omega) (cC_t0 _ _ _ _ _ x4) rfl 1 (by decide) (hts (.fieldLink RX11 231 "SeatsRound$Table" "turn" "I") (List.mem_of_getElem? (i := 5) rfl)) (fun _ h9 => h9) rfl dX11_share_80 ?_
      obtain ⟨r2, hf3, h⟩ := biS h
      refine ux_calli (va_runV (As := [.int x6, .int (σ.1 (182 + 6 * x4) 1)]) (rest := [.ref (ad (182 + 6 * x4))]) ⟨hx, hb, hml, hown, hts⟩ (tX4_placeOf l dC dI cy ad τ nb hτ σ x6 (σ.1 (182 + 6 * x4) 1) H.size r2 hf3) (cwV 2 hts gX11_share_X4_placeOf rfl rfl rfl (by decide +kernel) ⟨Nat.le_of_ble_eq_true rfl, Nat.le_of_ble_eq_true rfl⟩) (wp_V hK hN hP hD (va_recv hK hP (ci := 4) (q0 := 3) rfl (wG_of (Nat.lt_of_lt_of_le (Nat.le_of_ble_eq_true rfl : 3 < 182) (Nat.le_add_right _ _)) (cC_3 _ _ _ _ _)))) rfl rfl hl.1 rfl (lv_room (Nat.le_of_ble_eq_true rfl)) dX11_share_83 ⟨Nat.le_of_ble_eq_true rfl, Nat.le_of_ble_eq_true rfl⟩) hD hS hA (fun H locs hP hD hS => ?_)
      obtain ⟨r4, hf5, h⟩ := biS h
      refine ux_calli (va_runV (As := [.int r2]) (rest := []) ⟨hx, hb, hml, hown, hts⟩ (tX8_firstFor l dC dI cy ad τ nb hτ x4 (by omega) σ r2 H.size r4 hf5) (cwV 1 hts gX11_share_X8_firstFor rfl rfl rfl (by decide +kernel) ⟨Nat.le_of_ble_eq_true rfl, Nat.le_of_ble_eq_true rfl⟩) (wp_V hK hN hP hD (va_recv hK hP (ci := 8) (q0 := (182 + 6 * x4)) rfl (wG_of (by omega) (cC_t0 _ _ _ _ _ x4)))) rfl rfl hl.1 rfl (lv_room (Nat.le_of_ble_eq_true rfl)) dX11_share_86 ⟨Nat.le_of_ble_eq_true rfl, Nat.le_of_ble_eq_true rfl⟩) hD hS hA (fun H locs hP hD hS => ?_)
      refine lv_iload_n hx hb dX11_share_89 rfl (lv_at hl 1 rfl) ?_
      refine lv_icmp_ne (tgt := 96) hx hb dX11_share_90 (by decide) (fun hcd => ?_) (fun hcd => ?_)
      · have h := cdN hcd h
        exact w96 _ ih σ x2 x4 x5 x6 H locs ls (by omega) h hP hD hS hl
      · have h := cdP hcd h
        obtain ⟨v6, ev6⟩ : ∃ y : Int32, y = x5 + 1 := ⟨_, rfl⟩
        have h := nmS h ev6
        refine lv_iinc (v := v6) (lv' := [(5, .int v6), (0, .ref (ad 0)), (2, .int x2), (4, .ref (ad (182 + 6 * x4))), (6, .int x6)]) hx hb dX11_share_93 hl (k := 3) rfl (by rw [ev6]; rfl) (by decide) rfl (fun ls hl => ?_)
        have hl := lv_sub hl [1, 2, 3, 0, 4] (l' := [(0, .ref (ad 0)), (2, .int x2), (4, .ref (ad (182 + 6 * x4))), (5, .int v6), (6, .int x6)]) rfl
        exact w96 _ ih σ x2 x4 v6 x6 H locs ls (by omega) h hP hD hS hl
  have w0 : ∀ (σ : S2) (x1 : Int32) (x2 : Int32) (x3 : Int32) (H : Heap) (locs : List Loc) (ls : Array Slot), fX11_share_0 τ σ x1 x2 x3 = some (r0, σ9) → va_P (dC, dI) vwCl (wG (cC cy ad τ) ad (182 + 6 * nb) σ) H → va_D A (wG (cC cy ad τ) ad (182 + 6 * nb) σ) → va_S A s.heap H locs → lv_has ls 7 [(0, .ref (ad 0)), (1, .int x1), (2, .int x2), (3, .int x3)] → W p l e (headSpec wsX11_share ({ frames := 5, cells := 0, slots := 0, locals := 112 })).room s m (#[.ref (ad 0), .int a1, .int a2, .int a3]) below meth c H locs 0 0 (MQ below (va_Qi (fun (r : Int32) (_ : Unit) => r = r0) (fun (_ : Unit) t => wAt (dC, dI) A (wG (cC cy ad τ) ad (182 + 6 * nb) σ9) t) A) (#[.ref (ad 0), .int a1, .int a2, .int a3]) s 0 0 A) (F0 m 0 ls []) := by
    intro σ x1 x2 x3 H locs ls h hP hD hS hl
    unfold fX11_share_0 at h
    refine lv_aload_n hx hb dX11_share_0 rfl (lv_at hl 0 rfl) ?_
    refine lv_iload_n hx hb dX11_share_1 rfl (lv_at hl 1 rfl) ?_
    rcases btS h with ⟨hf7, h⟩ | ⟨b8, hf7, h⟩
    · have _ := hτ
      refine ux_callqN (va_runV (As := [.int x1]) (rest := []) ⟨hx, hb, hml, hown, hts⟩ (tX11_tableAt l dC dI cy ad τ nb hτ σ x1 H.size none hf7) (cwV 1 hts gX11_share_X11_tableAt rfl rfl rfl (by decide +kernel) ⟨Nat.le_of_ble_eq_true rfl, Nat.le_of_ble_eq_true rfl⟩) (wp_V hK hN hP hD (va_recv hK hP (ci := 11) (q0 := 0) rfl (wG_of (Nat.lt_of_lt_of_le (Nat.le_of_ble_eq_true rfl : 0 < 182) (Nat.le_add_right _ _)) (cC_0 _ _ _ _ _)))) rfl rfl hl.1 rfl (lv_room (Nat.le_of_ble_eq_true rfl)) dX11_share_2 ⟨Nat.le_of_ble_eq_true rfl, Nat.le_of_ble_eq_true rfl⟩) ?_
      refine lv_astoreN (lv' := [(4, .null), (0, .ref (ad 0)), (1, .int x1), (2, .int x2), (3, .int x3)]) hx hb dX11_share_5 hl (by decide) rfl (fun ls hl => ?_)
      have hl := lv_sub hl [1, 2, 3, 4, 0] (l' := [(0, .ref (ad 0)), (1, .int x1), (2, .int x2), (3, .int x3), (4, .null)]) rfl
      refine lv_aloadN hx hb dX11_share_7 (lv_at hl 4 rfl) ?_
      refine lv_ifnullN (tgt := 32) hx hb dX11_share_9 (by decide) ?_
      refine lv_iconst (v := (-1)) hx hb dX11_share_32 (by decide) ?_
      exact ux_iret hx hb hr h hP hD hS hlocks dX11_share_33
    · have hb8 : b8 < nb := ux_tabB hτ hf7
      refine ux_callqS (va_runV (As := [.int x1]) (rest := []) ⟨hx, hb, hml, hown, hts⟩ (tX11_tableAt l dC dI cy ad τ nb hτ σ x1 H.size (some b8) hf7) (cwV 1 hts gX11_share_X11_tableAt rfl rfl rfl (by decide +kernel) ⟨Nat.le_of_ble_eq_true rfl, Nat.le_of_ble_eq_true rfl⟩) (wp_V hK hN hP hD (va_recv hK hP (ci := 11) (q0 := 0) rfl (wG_of (Nat.lt_of_lt_of_le (Nat.le_of_ble_eq_true rfl : 0 < 182) (Nat.le_add_right _ _)) (cC_0 _ _ _ _ _)))) rfl rfl hl.1 rfl (lv_room (Nat.le_of_ble_eq_true rfl)) dX11_share_2 ⟨Nat.le_of_ble_eq_true rfl, Nat.le_of_ble_eq_true rfl⟩) ?_
      refine lv_astore (lv' := [(4, .ref (ad (182 + 6 * b8))), (0, .ref (ad 0)), (1, .int x1), (2, .int x2), (3, .int x3)]) hx hb dX11_share_5 hl (by decide) rfl (fun ls hl => ?_)
      have hl := lv_sub hl [1, 2, 3, 4, 0] (l' := [(0, .ref (ad 0)), (1, .int x1), (2, .int x2), (3, .int x3), (4, .ref (ad (182 + 6 * b8)))]) rfl
      refine lv_aload hx hb dX11_share_7 (lv_at hl 4 rfl) ?_
      refine lv_ifnull hx hb dX11_share_9 ?_
      refine lv_aload_n hx hb dX11_share_12 rfl (lv_at hl 0 rfl) ?_
      refine ux_get (D := (dC, dI)) (ci := 11) (v := .ref (ad 7)) (C := RX11) (T := TX11) (M := 13) (fs := (oSR ad (σ.1 0))) hx hb hts (fun _ h9 => List.mem_cons_of_mem _ (List.mem_append_left _ (List.mem_append_left _ (List.mem_append_left _ (List.mem_append_right _ h9))))) hown hK hP 0 (Nat.lt_of_lt_of_le (Nat.le_of_ble_eq_true rfl : 0 < 182) (Nat.le_add_right _ _)) (cC_0 _ _ _ _ _) rfl 2 (by decide) (hts (.fieldLink RX11 26 "SeatsRound" "keepers" "LSeatsRound$Keepers;") (List.mem_of_getElem? (i := 1) rfl)) (fun _ h9 => h9) rfl dX11_share_13 ?_
      refine lv_iload_n hx hb dX11_share_16 rfl (lv_at hl 2 rfl) ?_
      obtain ⟨r9, hf10, h⟩ := biS h
      refine ux_calli (va_runV (As := [.int x2]) (rest := []) ⟨hx, hb, hml, hown, hts⟩ (tX2_has l dC dI cy ad τ nb hτ σ x2 H.size r9 hf10) (cwV 1 hts gX11_share_X2_has rfl rfl rfl (by decide +kernel) ⟨Nat.le_of_ble_eq_true rfl, Nat.le_of_ble_eq_true rfl⟩) (wp_V hK hN hP hD (va_recv hK hP (ci := 2) (q0 := 7) rfl (wG_of (Nat.lt_of_lt_of_le (Nat.le_of_ble_eq_true rfl : 7 < 182) (Nat.le_add_right _ _)) (cC_7 _ _ _ _ _)))) rfl rfl hl.1 rfl (lv_room (Nat.le_of_ble_eq_true rfl)) dX11_share_17 ⟨Nat.le_of_ble_eq_true rfl, Nat.le_of_ble_eq_true rfl⟩) hD hS hA (fun H locs hP hD hS => ?_)
      refine lv_if_eq (tgt := 32) hx hb dX11_share_20 (by decide) (fun hcd => ?_) (fun hcd => ?_)
      · have h := cdP hcd h
        refine lv_iconst (v := (-1)) hx hb dX11_share_32 (by decide) ?_
        exact ux_iret hx hb hr h hP hD hS hlocks dX11_share_33
      · have h := cdN hcd h
        refine lv_iload_n hx hb dX11_share_23 rfl (lv_at hl 3 rfl) ?_
        refine lv_if_lt (tgt := 32) hx hb dX11_share_24 (by decide) (fun hcd => ?_) (fun hcd => ?_)
        · have h := cdP hcd h
          refine lv_iconst (v := (-1)) hx hb dX11_share_32 (by decide) ?_
          exact ux_iret hx hb hr h hP hD hS hlocks dX11_share_33
        · have h := cdN hcd h
          refine lv_iload_n hx hb dX11_share_27 rfl (lv_at hl 3 rfl) ?_
          refine lv_iconst (v := 1) hx hb dX11_share_28 (by decide) ?_
          refine lv_icmp_le (tgt := 34) hx hb dX11_share_29 (by decide) (fun hcd => ?_) (fun hcd => ?_)
          · have h := cdP hcd h
            refine lv_iload_n hx hb dX11_share_34 rfl (lv_at hl 3 rfl) ?_
            refine lv_iconst (v := 1) hx hb dX11_share_35 (by decide) ?_
            refine lv_icmp_ne (tgt := 52) hx hb dX11_share_36 (by decide) (fun hcd => ?_) (fun hcd => ?_)
            · have h := cdN hcd h
              refine lv_iconst (v := 0) hx hb dX11_share_52 (by decide) ?_
              refine lv_istore (lv' := [(5, .int 0), (0, .ref (ad 0)), (1, .int x1), (2, .int x2), (3, .int x3), (4, .ref (ad (182 + 6 * b8)))]) hx hb dX11_share_53 hl (by decide) rfl (fun ls hl => ?_)
              have hl := lv_sub hl [1, 2, 3, 4, 5, 0] (l' := [(0, .ref (ad 0)), (1, .int x1), (2, .int x2), (3, .int x3), (4, .ref (ad (182 + 6 * b8))), (5, .int 0)]) rfl
              refine lv_iconst (v := 0) hx hb dX11_share_55 (by decide) ?_
              refine lv_istore (lv' := [(6, .int 0), (0, .ref (ad 0)), (1, .int x1), (2, .int x2), (3, .int x3), (4, .ref (ad (182 + 6 * b8))), (5, .int 0)]) hx hb dX11_share_56 hl (by decide) rfl (fun ls hl => ?_)
              have hl := lv_sub hl [1, 2, 3, 4, 5, 6, 0] (l' := [(0, .ref (ad 0)), (1, .int x1), (2, .int x2), (3, .int x3), (4, .ref (ad (182 + 6 * b8))), (5, .int 0), (6, .int 0)]) rfl
              exact w58 FU σ x2 b8 0 0 H locs ls (by omega) h hP hD hS (lv_sub hl [0, 2, 4, 5, 6] rfl)
            · have h := cdP hcd h
              refine lv_aload hx hb dX11_share_39 (lv_at hl 4 rfl) ?_
              obtain ⟨r11, σ12, hf13, h⟩ := bsS h
              refine ux_callv (va_runV (As := []) (rest := []) ⟨hx, hb, hml, hown, hts⟩ (tX8_countOdds l dC dI cy ad τ nb hτ b8 (by omega) σ H.size r11 σ12 hf13) (cwV 0 hts gX11_share_X8_countOdds rfl rfl rfl (by decide +kernel) ⟨Nat.le_of_ble_eq_true rfl, Nat.le_of_ble_eq_true rfl⟩) (wp_V hK hN hP hD (va_recv hK hP (ci := 8) (q0 := (182 + 6 * b8)) rfl (wG_of (by omega) (cC_t0 _ _ _ _ _ b8)))) rfl rfl hl.1 rfl (lv_room (Nat.le_of_ble_eq_true rfl)) dX11_share_41 ⟨Nat.le_of_ble_eq_true rfl, Nat.le_of_ble_eq_true rfl⟩) hD hS hA (fun H locs hP hD hS => ?_)
              refine lv_aload hx hb dX11_share_44 (lv_at hl 4 rfl) ?_
              refine ux_get (D := (dC, dI)) (ci := 8) (v := .ref (ad (182 + 6 * b8 + 2))) (C := RX8) (T := TX8) (M := 13) (fs := (oTB ad (182 + 6 * b8) (σ12.1 (182 + 6 * b8)))) hx hb hts (fun _ h9 => List.mem_cons_of_mem _ (List.mem_append_left _ (List.mem_append_left _ (List.mem_append_right _ h9)))) hown hK hP (182 + 6 * b8) (by omega) (cC_t0 _ _ _ _ _ b8) rfl 9 (by decide) (hts (.fieldLink RX11 254 "SeatsRound$Table" "odds" "[I") (List.mem_of_getElem? (i := 2) rfl)) (fun _ h9 => h9) rfl dX11_share_46 ?_
              refine lv_iload_n hx hb dX11_share_49 rfl (lv_at hl 2 rfl) ?_
              refine ux_iald hx hb hK hP (182 + 6 * b8 + 2) 0 (by omega) (cC_t2 _ _ _ _ _ b8) rfl h dX11_share_50 (fun v14 h => ?_)
              exact ux_iret hx hb hr h hP hD hS hlocks dX11_share_51
          · have h := cdN hcd h
            refine lv_iconst (v := (-1)) hx hb dX11_share_32 (by decide) ?_
            exact ux_iret hx hb hr h hP hD hS hlocks dX11_share_33
  intro H locs ls h hP hD hS hl
  exact w0 σ a1 a2 a3 H locs ls h hP hD hS (lv_sub hl [0, 1, 2, 3] rfl)

set_option maxHeartbeats 4000000 in
set_option maxRecDepth 100000 in
theorem tX11_moves (l : Launch) (dC : Nat → ClassId) (dI : Nat → Nat → Nat) (cy : Nat → ClassId) (ad : Nat → Nat) (τ nb : Nat) (hτ : τ < nb) (σ : S2) (a1 : Int32) (a2 : Int32) (a3 : Int32) (sz : Nat) (r0 : Int32) (σ9 : S2) (h : fX11_moves τ σ a1 a2 a3 = some (r0, σ9)) : Met l yX11_moves wsX11_moves ({ frames := 6, cells := 0, slots := 0, locals := 136 }) (va_Pc [.ref (ad 0), .int a1, .int a2, .int a3] (wPre (dC, dI) cy (wG (cC cy ad τ) ad (182 + 6 * nb) σ) sz)) (va_Qi (fun (r : Int32) (_ : Unit) => r = r0) (fun (_ : Unit) t => wAt (dC, dI) (va_A (wG (cC cy ad τ) ad (182 + 6 * nb) σ) sz) (wG (cC cy ad τ) ad (182 + 6 * nb) σ9) t) (va_A (wG (cC cy ad τ) ad (182 + 6 * nb) σ) sz)) 0 0 (va_A (wG (cC cy ad τ) ad (182 + 6 * nb) σ) sz) := by
  refine Met.ofW (cc := cX11_moves) (maxL := 11) (ret := (some .int)) (by decide) rfl ?_
  intro p e s m args below meth c s₁ B hml hv
  obtain ⟨rfl, hsz, hP, hK, hD0, hN⟩ := hv
  have hx := B.exec
  have hb := B.bytes
  have hr := B.returns
  have hts := atoms_spec (ws := wsX11_moves) B.pre
  have hown : s.vm.findClass RX11 = some m.cls := findClass_of_methodNamed B.named
  have hlocks := B.notSynchronized
  subst hsz
  have hD := hD0.self (sz := s.heap.size)
  generalize hAe : va_A (wG (cC cy ad τ) ad (182 + 6 * nb) σ) s.heap.size = A at hD ⊢
  have hA : ∀ q : Nat, s.heap.size ≤ q → A q := fun q h => by rw [← hAe]; exact Or.inr h
  have hS : va_S A s.heap s.heap [] := va_S.rf
  have hl := lv_entry ([.ref (ad 0), .int a1, .int a2, .int a3]) (n := 11) (Nat.le_of_ble_eq_true rfl)
  rw [lg_entry_eq]
  generalize (lg_sl ([.ref (ad 0), .int a1, .int a2, .int a3]) ++ List.replicate (11 - (lg_sl ([.ref (ad 0), .int a1, .int a2, .int a3])).length) Slot.unset).toArray = ls at hl ⊢
  have hl : lv_has ls 11 [(0, .ref (ad 0)), (1, .int a1), (2, .int a2), (3, .int a3)] := hl
  unfold fX11_moves at h
  clear hAe hD0
  suffices HH : ∀ (H : Heap) (locs : List Loc) (ls : Array Slot), fX11_moves_0 τ σ a1 a2 a3 = some (r0, σ9) → va_P (dC, dI) vwCl (wG (cC cy ad τ) ad (182 + 6 * nb) σ) H → va_D A (wG (cC cy ad τ) ad (182 + 6 * nb) σ) → va_S A s.heap H locs → lv_has ls 11 [(0, .ref (ad 0)), (1, .int a1), (2, .int a2), (3, .int a3)] → W p l e (headSpec wsX11_moves ({ frames := 6, cells := 0, slots := 0, locals := 136 })).room s m (#[.ref (ad 0), .int a1, .int a2, .int a3]) below meth c H locs 0 0 (MQ below (va_Qi (fun (r : Int32) (_ : Unit) => r = r0) (fun (_ : Unit) t => wAt (dC, dI) A (wG (cC cy ad τ) ad (182 + 6 * nb) σ9) t) A) (#[.ref (ad 0), .int a1, .int a2, .int a3]) s 0 0 A) (F0 m 0 ls []) from HH s.heap [] ls h hP hD hS hl
  have w157 : ∀ (k50 : S2 → Int32 → Nat → Nat → Int32 → Int32 → Int32 → Option (Int32 × S2)) (hk50 : ∀ (σ : S2) (x3 : Int32) (x4 : Nat) (x5 : Nat) (x6 : Int32) (x7 : Int32) (x8 : Int32) (H : Heap) (locs : List Loc) (ls : Array Slot), x4 < nb → x5 < nb → k50 σ x3 x4 x5 x6 x7 x8 = some (r0, σ9) → va_P (dC, dI) vwCl (wG (cC cy ad τ) ad (182 + 6 * nb) σ) H → va_D A (wG (cC cy ad τ) ad (182 + 6 * nb) σ) → va_S A s.heap H locs → lv_has ls 11 [(0, .ref (ad 0)), (3, .int x3), (4, .ref (ad (182 + 6 * x4))), (5, .ref (ad (182 + 6 * x5))), (6, .int x6), (7, .int x7), (8, .int x8)] → W p l e (headSpec wsX11_moves ({ frames := 6, cells := 0, slots := 0, locals := 136 })).room s m (#[.ref (ad 0), .int a1, .int a2, .int a3]) below meth c H locs 0 0 (MQ below (va_Qi (fun (r : Int32) (_ : Unit) => r = r0) (fun (_ : Unit) t => wAt (dC, dI) A (wG (cC cy ad τ) ad (182 + 6 * nb) σ9) t) A) (#[.ref (ad 0), .int a1, .int a2, .int a3]) s 0 0 A) (F0 m 50 ls [])) , ∀ (σ : S2) (x3 : Int32) (x4 : Nat) (x5 : Nat) (x6 : Int32) (x7 : Int32) (x8 : Int32) (x10 : Int32) (H : Heap) (locs : List Loc) (ls : Array Slot), x4 < nb → x5 < nb → fX11_moves_157 τ k50 σ x3 x4 x5 x6 x7 x8 x10 = some (r0, σ9) → va_P (dC, dI) vwCl (wG (cC cy ad τ) ad (182 + 6 * nb) σ) H → va_D A (wG (cC cy ad τ) ad (182 + 6 * nb) σ) → va_S A s.heap H locs → lv_has ls 11 [(0, .ref (ad 0)), (3, .int x3), (4, .ref (ad (182 + 6 * x4))), (5, .ref (ad (182 + 6 * x5))), (6, .int x6), (7, .int x7), (8, .int x8), (10, .int x10)] → W p l e (headSpec wsX11_moves ({ frames := 6, cells := 0, slots := 0, locals := 136 })).room s m (#[.ref (ad 0), .int a1, .int a2, .int a3]) below meth c H locs 0 0 (MQ below (va_Qi (fun (r : Int32) (_ : Unit) => r = r0) (fun (_ : Unit) t => wAt (dC, dI) A (wG (cC cy ad τ) ad (182 + 6 * nb) σ9) t) A) (#[.ref (ad 0), .int a1, .int a2, .int a3]) s 0 0 A) (F0 m 157 ls []) := by
    intro k50 hk50 σ x3 x4 x5 x6 x7 x8 x10 H locs ls hx4 hx5 h hP hD hS hl
    unfold fX11_moves_157 at h
    refine lv_iload hx hb dX11_moves_157 (lv_at hl 5 rfl) ?_
    refine lv_iload hx hb dX11_moves_159 (lv_at hl 7 rfl) ?_
    obtain ⟨r1, hf2, h⟩ := biS h
    refine ux_calli (va_runS (As := [.int x10]) (rest := [.int x7]) ⟨hx, hb, hml, hown, hts⟩ (tJ6_bitCount_0f7a4 l dC dI cy ad τ nb hτ σ x10 H.size r1 hf2) (va_cwS 1 hts gX11_moves_J6_bitCount_0f7a4 rfl rfl rfl (by decide +kernel) ⟨Nat.le_of_ble_eq_true rfl, Nat.le_of_ble_eq_true rfl⟩) (wp_S hK hN hP hD) rfl rfl hl.1 rfl (lv_room (Nat.le_of_ble_eq_true rfl)) dX11_moves_161 ⟨Nat.le_of_ble_eq_true rfl, Nat.le_of_ble_eq_true rfl⟩) hD hS hA (fun H locs hP hD hS => ?_)
    refine lv_iadd hx hb dX11_moves_164 ?_
    refine lv_topi (fun v3 ev3 => ?_)
    have h := nmS h ev3
    refine lv_istore (lv' := [(7, .int v3), (0, .ref (ad 0)), (3, .int x3), (4, .ref (ad (182 + 6 * x4))), (5, .ref (ad (182 + 6 * x5))), (6, .int x6), (8, .int x8), (10, .int x10)]) hx hb dX11_moves_165 hl (by decide) rfl (fun ls hl => ?_)
    have hl := lv_sub hl [1, 2, 3, 4, 5, 0, 6, 7] (l' := [(0, .ref (ad 0)), (3, .int x3), (4, .ref (ad (182 + 6 * x4))), (5, .ref (ad (182 + 6 * x5))), (6, .int x6), (7, .int v3), (8, .int x8), (10, .int x10)]) rfl
    obtain ⟨v4, ev4⟩ : ∃ y : Int32, y = x8 + 1 := ⟨_, rfl⟩
    have h := nmS h ev4
    refine lv_iinc (v := v4) (lv' := [(8, .int v4), (0, .ref (ad 0)), (3, .int x3), (4, .ref (ad (182 + 6 * x4))), (5, .ref (ad (182 + 6 * x5))), (6, .int x6), (7, .int v3), (10, .int x10)]) hx hb dX11_moves_167 hl (k := 6) rfl (by rw [ev4]; rfl) (by decide) rfl (fun ls hl => ?_)
    have hl := lv_sub hl [1, 2, 3, 4, 5, 6, 0, 7] (l' := [(0, .ref (ad 0)), (3, .int x3), (4, .ref (ad (182 + 6 * x4))), (5, .ref (ad (182 + 6 * x5))), (6, .int x6), (7, .int v3), (8, .int v4), (10, .int x10)]) rfl
    refine lv_goto (tgt := 50) hx hb dX11_moves_170 (by decide) ?_
    exact hk50 σ x3 x4 x5 x6 v3 v4 H locs ls (by omega) (by omega) h hP hD hS (lv_sub hl [0, 1, 2, 3, 4, 5, 6] rfl)
  have w155 : ∀ (k50 : S2 → Int32 → Nat → Nat → Int32 → Int32 → Int32 → Option (Int32 × S2)) (hk50 : ∀ (σ : S2) (x3 : Int32) (x4 : Nat) (x5 : Nat) (x6 : Int32) (x7 : Int32) (x8 : Int32) (H : Heap) (locs : List Loc) (ls : Array Slot), x4 < nb → x5 < nb → k50 σ x3 x4 x5 x6 x7 x8 = some (r0, σ9) → va_P (dC, dI) vwCl (wG (cC cy ad τ) ad (182 + 6 * nb) σ) H → va_D A (wG (cC cy ad τ) ad (182 + 6 * nb) σ) → va_S A s.heap H locs → lv_has ls 11 [(0, .ref (ad 0)), (3, .int x3), (4, .ref (ad (182 + 6 * x4))), (5, .ref (ad (182 + 6 * x5))), (6, .int x6), (7, .int x7), (8, .int x8)] → W p l e (headSpec wsX11_moves ({ frames := 6, cells := 0, slots := 0, locals := 136 })).room s m (#[.ref (ad 0), .int a1, .int a2, .int a3]) below meth c H locs 0 0 (MQ below (va_Qi (fun (r : Int32) (_ : Unit) => r = r0) (fun (_ : Unit) t => wAt (dC, dI) A (wG (cC cy ad τ) ad (182 + 6 * nb) σ9) t) A) (#[.ref (ad 0), .int a1, .int a2, .int a3]) s 0 0 A) (F0 m 50 ls [])) , ∀ (σ : S2) (x3 : Int32) (x4 : Nat) (x5 : Nat) (x6 : Int32) (x7 : Int32) (x8 : Int32) (s0 : Int32) (H : Heap) (locs : List Loc) (ls : Array Slot), x4 < nb → x5 < nb → fX11_moves_155 τ k50 σ x3 x4 x5 x6 x7 x8 s0 = some (r0, σ9) → va_P (dC, dI) vwCl (wG (cC cy ad τ) ad (182 + 6 * nb) σ) H → va_D A (wG (cC cy ad τ) ad (182 + 6 * nb) σ) → va_S A s.heap H locs → lv_has ls 11 [(0, .ref (ad 0)), (3, .int x3), (4, .ref (ad (182 + 6 * x4))), (5, .ref (ad (182 + 6 * x5))), (6, .int x6), (7, .int x7), (8, .int x8)] → W p l e (headSpec wsX11_moves ({ frames := 6, cells := 0, slots := 0, locals := 136 })).room s m (#[.ref (ad 0), .int a1, .int a2, .int a3]) below meth c H locs 0 0 (MQ below (va_Qi (fun (r : Int32) (_ : Unit) => r = r0) (fun (_ : Unit) t => wAt (dC, dI) A (wG (cC cy ad τ) ad (182 + 6 * nb) σ9) t) A) (#[.ref (ad 0), .int a1, .int a2, .int a3]) s 0 0 A) (F0 m 155 ls [.int s0]) := by
    intro k50 hk50 σ x3 x4 x5 x6 x7 x8 s0 H locs ls hx4 hx5 h hP hD hS hl
    unfold fX11_moves_155 at h
    refine lv_istore (lv' := [(10, .int s0), (0, .ref (ad 0)), (3, .int x3), (4, .ref (ad (182 + 6 * x4))), (5, .ref (ad (182 + 6 * x5))), (6, .int x6), (7, .int x7), (8, .int x8)]) hx hb dX11_moves_155 hl (by decide) rfl (fun ls hl => ?_)
    have hl := lv_sub hl [1, 2, 3, 4, 5, 6, 7, 0] (l' := [(0, .ref (ad 0)), (3, .int x3), (4, .ref (ad (182 + 6 * x4))), (5, .ref (ad (182 + 6 * x5))), (6, .int x6), (7, .int x7), (8, .int x8), (10, .int s0)]) rfl
    exact w157 _ hk50 σ x3 x4 x5 x6 x7 x8 s0 H locs ls (by omega) (by omega) h hP hD hS hl
  have w50 : ∀ (n : Nat), ∀ (σ : S2) (x3 : Int32) (x4 : Nat) (x5 : Nat) (x6 : Int32) (x7 : Int32) (x8 : Int32) (H : Heap) (locs : List Loc) (ls : Array Slot), x4 < nb → x5 < nb → fX11_moves_50 τ n σ x3 x4 x5 x6 x7 x8 = some (r0, σ9) → va_P (dC, dI) vwCl (wG (cC cy ad τ) ad (182 + 6 * nb) σ) H → va_D A (wG (cC cy ad τ) ad (182 + 6 * nb) σ) → va_S A s.heap H locs → lv_has ls 11 [(0, .ref (ad 0)), (3, .int x3), (4, .ref (ad (182 + 6 * x4))), (5, .ref (ad (182 + 6 * x5))), (6, .int x6), (7, .int x7), (8, .int x8)] → W p l e (headSpec wsX11_moves ({ frames := 6, cells := 0, slots := 0, locals := 136 })).room s m (#[.ref (ad 0), .int a1, .int a2, .int a3]) below meth c H locs 0 0 (MQ below (va_Qi (fun (r : Int32) (_ : Unit) => r = r0) (fun (_ : Unit) t => wAt (dC, dI) A (wG (cC cy ad τ) ad (182 + 6 * nb) σ9) t) A) (#[.ref (ad 0), .int a1, .int a2, .int a3]) s 0 0 A) (F0 m 50 ls []) := by
    intro n
    induction n with
    | zero => intro σ x3 x4 x5 x6 x7 x8 H locs ls hx4 hx5 h; cases h
    | succ n ih =>
    intro σ x3 x4 x5 x6 x7 x8 H locs ls hx4 hx5 h hP hD hS hl
    unfold fX11_moves_50 at h
    refine lv_iload hx hb dX11_moves_50 (lv_at hl 6 rfl) ?_
    refine lv_aload_n hx hb dX11_moves_52 rfl (lv_at hl 0 rfl) ?_
    refine ux_get (D := (dC, dI)) (ci := 11) (v := .ref (ad 3)) (C := RX11) (T := TX11) (M := 13) (fs := (oSR ad (σ.1 0))) hx hb hts (fun _ h9 => List.mem_cons_of_mem _ (List.mem_append_left _ (List.mem_append_left _ (List.mem_append_left _ (List.mem_append_left _ (List.mem_append_right _ h9)))))) hown hK hP 0 (Nat.lt_of_lt_of_le (Nat.le_of_ble_eq_true rfl : 0 < 182) (Nat.le_add_right _ _)) (cC_0 _ _ _ _ _) rfl 1 (by decide) (hts (.fieldLink RX11 19 "SeatsRound" "nameList" "LSeatsRound$NameList;") (List.mem_of_getElem? (i := 1) rfl)) (fun _ h9 => h9) rfl dX11_moves_53 ?_
    refine ux_get (D := (dC, dI)) (ci := 4) (v := .int (σ.1 3 3)) (C := RX4) (T := TX4) (M := 4) (fs := (oNL ad (σ.1 3))) hx hb hts (fun _ h9 => List.mem_cons_of_mem _ (List.mem_append_left _ (List.mem_append_left _ (List.mem_append_left _ (List.mem_append_right _ h9))))) hown hK hP 3 (Nat.lt_of_lt_of_le (Nat.le_of_ble_eq_true rfl : 3 < 182) (Nat.le_add_right _ _)) (cC_3 _ _ _ _ _) rfl 3 (by decide) (hts (.fieldLink RX11 117 "SeatsRound$NameList" "count" "I") (List.mem_of_getElem? (i := 2) rfl)) (fun _ h9 => h9) rfl dX11_moves_56 ?_
    refine lv_icmp_ge (tgt := 173) hx hb dX11_moves_59 (by decide) (fun hcd => ?_) (fun hcd => ?_)
    · have h := cdP hcd h
      refine lv_iload hx hb dX11_moves_173 (lv_at hl 5 rfl) ?_
      exact ux_iret hx hb hr h hP hD hS hlocks dX11_moves_175
    · have h := cdN hcd h
      refine lv_aload_n hx hb dX11_moves_62 rfl (lv_at hl 0 rfl) ?_
      refine ux_get (D := (dC, dI)) (ci := 11) (v := .ref (ad 14)) (C := RX11) (T := TX11) (M := 13) (fs := (oSR ad (σ.1 0))) hx hb hts (fun _ h9 => List.mem_cons_of_mem _ (List.mem_append_left _ (List.mem_append_left _ (List.mem_append_left _ (List.mem_append_left _ (List.mem_append_right _ h9)))))) hown hK hP 0 (Nat.lt_of_lt_of_le (Nat.le_of_ble_eq_true rfl : 0 < 182) (Nat.le_add_right _ _)) (cC_0 _ _ _ _ _) rfl 4 (by decide) (hts (.fieldLink RX11 42 "SeatsRound" "choice" "LSeatsRound$Choice;") (List.mem_of_getElem? (i := 3) rfl)) (fun _ h9 => h9) rfl dX11_moves_63 ?_
      refine lv_aload hx hb dX11_moves_66 (lv_at hl 2 rfl) ?_
      refine lv_aload_n hx hb dX11_moves_68 rfl (lv_at hl 0 rfl) ?_
      refine ux_get (D := (dC, dI)) (ci := 11) (v := .ref (ad 3)) (C := RX11) (T := TX11) (M := 13) (fs := (oSR ad (σ.1 0))) hx hb hts (fun _ h9 => List.mem_cons_of_mem _ (List.mem_append_left _ (List.mem_append_left _ (List.mem_append_left _ (List.mem_append_left _ (List.mem_append_right _ h9)))))) hown hK hP 0 (Nat.lt_of_lt_of_le (Nat.le_of_ble_eq_true rfl : 0 < 182) (Nat.le_add_right _ _)) (cC_0 _ _ _ _ _) rfl 1 (by decide) (hts (.fieldLink RX11 19 "SeatsRound" "nameList" "LSeatsRound$NameList;") (List.mem_of_getElem? (i := 1) rfl)) (fun _ h9 => h9) rfl dX11_moves_69 ?_
      refine lv_iload hx hb dX11_moves_72 (lv_at hl 6 rfl) ?_
      refine lv_aload hx hb dX11_moves_74 (lv_at hl 2 rfl) ?_
      refine ux_get (D := (dC, dI)) (ci := 8) (v := .int (σ.1 (182 + 6 * x4) 1)) (C := RX8) (T := TX8) (M := 13) (fs := (oTB ad (182 + 6 * x4) (σ.1 (182 + 6 * x4)))) hx hb hts (fun _ h9 => List.mem_cons_of_mem _ (List.mem_append_left _ (List.mem_append_left _ (List.mem_append_right _ h9)))) hown hK hP (182 + 6 * x4) (by omega) (cC_t0 _ _ _ _ _ x4) rfl 1 (by decide) (hts (.fieldLink RX11 231 "SeatsRound$Table" "turn" "I") (List.mem_of_getElem? (i := 4) rfl)) (fun _ h9 => h9) rfl dX11_moves_76 ?_
      change W _ _ _ _ _ _ _ _ _ _ _ _ _ _ _ (F0 m 79 ls [.int (σ.1 (182 + 6 * x4) 1), .int x8, .ref (ad 3), .ref (ad (182 + 6 * x4)), .ref (ad 14)])
      obtain ⟨r5, hf6, h⟩ := biS h
      refine ux_calli (va_runV (As := [.int x8, .int (σ.1 (182 + 6 * x4) 1)]) (rest := [.ref (ad (182 + 6 * x4)), .ref (ad 14)]) ⟨hx, hb, hml, hown, hts⟩ (tX4_placeOf l dC dI cy ad τ nb hτ σ x8 (σ.1 (182 + 6 * x4) 1) H.size r5 hf6) (cwV 2 hts gX11_moves_X4_placeOf rfl rfl rfl (by decide +kernel) ⟨Nat.le_of_ble_eq_true rfl, Nat.le_of_ble_eq_true rfl⟩) (wp_V hK hN hP hD (va_recv hK hP (ci := 4) (q0 := 3) rfl (wG_of (Nat.lt_of_lt_of_le (Nat.le_of_ble_eq_true rfl : 3 < 182) (Nat.le_add_right _ _)) (cC_3 _ _ _ _ _)))) rfl rfl hl.1 rfl (lv_room (Nat.le_of_ble_eq_true rfl)) dX11_moves_79 ⟨Nat.le_of_ble_eq_true rfl, Nat.le_of_ble_eq_true rfl⟩) hD hS hA (fun H locs hP hD hS => ?_)
      obtain ⟨r7, σ8, hf9, h⟩ := bsS h
      refine ux_callv (va_runV (As := [.ref (ad (182 + 6 * x4)), .int r5]) (rest := []) ⟨hx, hb, hml, hown, hts⟩ (tX1_choose l dC dI cy ad τ nb hτ x4 (by omega) σ r5 H.size r7 σ8 hf9) (cwV 2 hts gX11_moves_X1_choose rfl rfl rfl (by decide +kernel) ⟨Nat.le_of_ble_eq_true rfl, Nat.le_of_ble_eq_true rfl⟩) (wp_V hK hN hP hD (va_recv hK hP (ci := 1) (q0 := 14) rfl (wG_of (Nat.lt_of_lt_of_le (Nat.le_of_ble_eq_true rfl : 14 < 182) (Nat.le_add_right _ _)) (cC_14 _ _ _ _ _)))) rfl rfl hl.1 rfl (lv_room (Nat.le_of_ble_eq_true rfl)) dX11_moves_82 ⟨Nat.le_of_ble_eq_true rfl, Nat.le_of_ble_eq_true rfl⟩) hD hS hA (fun H locs hP hD hS => ?_)
      refine lv_aload_n hx hb dX11_moves_85 rfl (lv_at hl 0 rfl) ?_
      refine ux_get (D := (dC, dI)) (ci := 11) (v := .ref (ad 14)) (C := RX11) (T := TX11) (M := 13) (fs := (oSR ad (σ8.1 0))) hx hb hts (fun _ h9 => List.mem_cons_of_mem _ (List.mem_append_left _ (List.mem_append_left _ (List.mem_append_left _ (List.mem_append_left _ (List.mem_append_right _ h9)))))) hown hK hP 0 (Nat.lt_of_lt_of_le (Nat.le_of_ble_eq_true rfl : 0 < 182) (Nat.le_add_right _ _)) (cC_0 _ _ _ _ _) rfl 4 (by decide) (hts (.fieldLink RX11 42 "SeatsRound" "choice" "LSeatsRound$Choice;") (List.mem_of_getElem? (i := 3) rfl)) (fun _ h9 => h9) rfl dX11_moves_86 ?_
      refine ux_get (D := (dC, dI)) (ci := 1) (v := .int (σ8.1 14 4)) (C := RX1) (T := TX1) (M := 9) (fs := (oCH ad (σ8.1 14))) hx hb hts (fun _ h9 => List.mem_cons_of_mem _ (List.mem_append_left _ (List.mem_append_right _ h9))) hown hK hP 14 (Nat.lt_of_lt_of_le (Nat.le_of_ble_eq_true rfl : 14 < 182) (Nat.le_add_right _ _)) (cC_14 _ _ _ _ _) rfl 4 (by decide) (hts (.fieldLink RX11 264 "SeatsRound$Choice" "chosenBits" "I") (List.mem_of_getElem? (i := 5) rfl)) (fun _ h9 => h9) rfl dX11_moves_89 ?_
      refine lv_topi (fun v10 ev10 => ?_)
      have h := nmS h ev10
      refine lv_istore (lv' := [(9, .int v10), (0, .ref (ad 0)), (3, .int x3), (4, .ref (ad (182 + 6 * x4))), (5, .ref (ad (182 + 6 * x5))), (6, .int x6), (7, .int x7), (8, .int x8)]) hx hb dX11_moves_92 hl (by decide) rfl (fun ls hl => ?_)
      have hl := lv_sub hl [1, 2, 3, 4, 5, 6, 7, 0] (l' := [(0, .ref (ad 0)), (3, .int x3), (4, .ref (ad (182 + 6 * x4))), (5, .ref (ad (182 + 6 * x5))), (6, .int x6), (7, .int x7), (8, .int x8), (9, .int v10)]) rfl
      refine lv_aload_n hx hb dX11_moves_94 rfl (lv_at hl 0 rfl) ?_
      refine ux_get (D := (dC, dI)) (ci := 11) (v := .ref (ad 14)) (C := RX11) (T := TX11) (M := 13) (fs := (oSR ad (σ8.1 0))) hx hb hts (fun _ h9 => List.mem_cons_of_mem _ (List.mem_append_left _ (List.mem_append_left _ (List.mem_append_left _ (List.mem_append_left _ (List.mem_append_right _ h9)))))) hown hK hP 0 (Nat.lt_of_lt_of_le (Nat.le_of_ble_eq_true rfl : 0 < 182) (Nat.le_add_right _ _)) (cC_0 _ _ _ _ _) rfl 4 (by decide) (hts (.fieldLink RX11 42 "SeatsRound" "choice" "LSeatsRound$Choice;") (List.mem_of_getElem? (i := 3) rfl)) (fun _ h9 => h9) rfl dX11_moves_95 ?_
      refine lv_aload hx hb dX11_moves_98 (lv_at hl 3 rfl) ?_
      refine lv_aload_n hx hb dX11_moves_100 rfl (lv_at hl 0 rfl) ?_
      refine ux_get (D := (dC, dI)) (ci := 11) (v := .ref (ad 3)) (C := RX11) (T := TX11) (M := 13) (fs := (oSR ad (σ8.1 0))) hx hb hts (fun _ h9 => List.mem_cons_of_mem _ (List.mem_append_left _ (List.mem_append_left _ (List.mem_append_left _ (List.mem_append_left _ (List.mem_append_right _ h9)))))) hown hK hP 0 (Nat.lt_of_lt_of_le (Nat.le_of_ble_eq_true rfl : 0 < 182) (Nat.le_add_right _ _)) (cC_0 _ _ _ _ _) rfl 1 (by decide) (hts (.fieldLink RX11 19 "SeatsRound" "nameList" "LSeatsRound$NameList;") (List.mem_of_getElem? (i := 1) rfl)) (fun _ h9 => h9) rfl dX11_moves_101 ?_
      refine lv_iload hx hb dX11_moves_104 (lv_at hl 6 rfl) ?_
      refine lv_aload hx hb dX11_moves_106 (lv_at hl 3 rfl) ?_
      refine ux_get (D := (dC, dI)) (ci := 8) (v := .int (σ8.1 (182 + 6 * x5) 1)) (C := RX8) (T := TX8) (M := 13) (fs := (oTB ad (182 + 6 * x5) (σ8.1 (182 + 6 * x5)))) hx hb hts (fun _ h9 => List.mem_cons_of_mem _ (List.mem_append_left _ (List.mem_append_left _ (List.mem_append_right _ h9)))) hown hK hP (182 + 6 * x5) (by omega) (cC_t0 _ _ _ _ _ x5) rfl 1 (by decide) (hts (.fieldLink RX11 231 "SeatsRound$Table" "turn" "I") (List.mem_of_getElem? (i := 4) rfl)) (fun _ h9 => h9) rfl dX11_moves_108 ?_
      change W _ _ _ _ _ _ _ _ _ _ _ _ _ _ _ (F0 m 111 ls [.int (σ8.1 (182 + 6 * x5) 1), .int x8, .ref (ad 3), .ref (ad (182 + 6 * x5)), .ref (ad 14)])
      obtain ⟨r11, hf12, h⟩ := biS h
      refine ux_calli (va_runV (As := [.int x8, .int (σ8.1 (182 + 6 * x5) 1)]) (rest := [.ref (ad (182 + 6 * x5)), .ref (ad 14)]) ⟨hx, hb, hml, hown, hts⟩ (tX4_placeOf l dC dI cy ad τ nb hτ σ8 x8 (σ8.1 (182 + 6 * x5) 1) H.size r11 hf12) (cwV 2 hts gX11_moves_X4_placeOf rfl rfl rfl (by decide +kernel) ⟨Nat.le_of_ble_eq_true rfl, Nat.le_of_ble_eq_true rfl⟩) (wp_V hK hN hP hD (va_recv hK hP (ci := 4) (q0 := 3) rfl (wG_of (Nat.lt_of_lt_of_le (Nat.le_of_ble_eq_true rfl : 3 < 182) (Nat.le_add_right _ _)) (cC_3 _ _ _ _ _)))) rfl rfl hl.1 rfl (lv_room (Nat.le_of_ble_eq_true rfl)) dX11_moves_111 ⟨Nat.le_of_ble_eq_true rfl, Nat.le_of_ble_eq_true rfl⟩) hD hS hA (fun H locs hP hD hS => ?_)
      obtain ⟨r13, σ14, hf15, h⟩ := bsS h
      refine ux_callv (va_runV (As := [.ref (ad (182 + 6 * x5)), .int r11]) (rest := []) ⟨hx, hb, hml, hown, hts⟩ (tX1_choose l dC dI cy ad τ nb hτ x5 (by omega) σ8 r11 H.size r13 σ14 hf15) (cwV 2 hts gX11_moves_X1_choose rfl rfl rfl (by decide +kernel) ⟨Nat.le_of_ble_eq_true rfl, Nat.le_of_ble_eq_true rfl⟩) (wp_V hK hN hP hD (va_recv hK hP (ci := 1) (q0 := 14) rfl (wG_of (Nat.lt_of_lt_of_le (Nat.le_of_ble_eq_true rfl : 14 < 182) (Nat.le_add_right _ _)) (cC_14 _ _ _ _ _)))) rfl rfl hl.1 rfl (lv_room (Nat.le_of_ble_eq_true rfl)) dX11_moves_114 ⟨Nat.le_of_ble_eq_true rfl, Nat.le_of_ble_eq_true rfl⟩) hD hS hA (fun H locs hP hD hS => ?_)
      refine lv_aload_n hx hb dX11_moves_117 rfl (lv_at hl 0 rfl) ?_
      refine ux_get (D := (dC, dI)) (ci := 11) (v := .ref (ad 14)) (C := RX11) (T := TX11) (M := 13) (fs := (oSR ad (σ14.1 0))) hx hb hts (fun _ h9 => List.mem_cons_of_mem _ (List.mem_append_left _ (List.mem_append_left _ (List.mem_append_left _ (List.mem_append_left _ (List.mem_append_right _ h9)))))) hown hK hP 0 (Nat.lt_of_lt_of_le (Nat.le_of_ble_eq_true rfl : 0 < 182) (Nat.le_add_right _ _)) (cC_0 _ _ _ _ _) rfl 4 (by decide) (hts (.fieldLink RX11 42 "SeatsRound" "choice" "LSeatsRound$Choice;") (List.mem_of_getElem? (i := 3) rfl)) (fun _ h9 => h9) rfl dX11_moves_118 ?_
      refine ux_get (D := (dC, dI)) (ci := 1) (v := .int (σ14.1 14 4)) (C := RX1) (T := TX1) (M := 9) (fs := (oCH ad (σ14.1 14))) hx hb hts (fun _ h9 => List.mem_cons_of_mem _ (List.mem_append_left _ (List.mem_append_right _ h9))) hown hK hP 14 (Nat.lt_of_lt_of_le (Nat.le_of_ble_eq_true rfl : 14 < 182) (Nat.le_add_right _ _)) (cC_14 _ _ _ _ _) rfl 4 (by decide) (hts (.fieldLink RX11 264 "SeatsRound$Choice" "chosenBits" "I") (List.mem_of_getElem? (i := 5) rfl)) (fun _ h9 => h9) rfl dX11_moves_121 ?_
      refine lv_iload hx hb dX11_moves_124 (lv_at hl 7 rfl) ?_
      refine lv_iconst (v := (-1)) hx hb dX11_moves_126 (by decide) ?_
      refine lv_ixor hx hb dX11_moves_127 ?_
      refine lv_iand hx hb dX11_moves_128 ?_
      refine lv_topi (fun v16 ev16 => ?_)
      have h := nmS h ev16
      refine lv_istore (lv' := [(10, .int v16), (0, .ref (ad 0)), (3, .int x3), (4, .ref (ad (182 + 6 * x4))), (5, .ref (ad (182 + 6 * x5))), (6, .int x6), (7, .int x7), (8, .int x8), (9, .int v10)]) hx hb dX11_moves_129 hl (by decide) rfl (fun ls hl => ?_)
      have hl := lv_sub hl [1, 2, 3, 4, 5, 6, 7, 8, 0] (l' := [(0, .ref (ad 0)), (3, .int x3), (4, .ref (ad (182 + 6 * x4))), (5, .ref (ad (182 + 6 * x5))), (6, .int x6), (7, .int x7), (8, .int x8), (9, .int v10), (10, .int v16)]) rfl
      change W _ _ _ _ _ _ _ _ _ _ _ _ _ _ _ (F0 m 131 ls [])
      refine lv_iload_n hx hb dX11_moves_131 rfl (lv_at hl 1 rfl) ?_
      refine lv_iconst (v := 1) hx hb dX11_moves_132 (by decide) ?_
      refine lv_icmp_ne (tgt := 157) hx hb dX11_moves_133 (by decide) (fun hcd => ?_) (fun hcd => ?_)
      · have h := cdN hcd h
        exact w157 _ ih σ14 x3 x4 x5 x6 x7 x8 v16 H locs ls (by omega) (by omega) h hP hD hS (lv_sub hl [0, 1, 2, 3, 4, 5, 6, 8] rfl)
      · have h := cdP hcd h
        refine lv_iload hx hb dX11_moves_136 (lv_at hl 7 rfl) ?_
        refine lv_iload hx hb dX11_moves_138 (lv_at hl 4 rfl) ?_
        refine lv_iconst (v := (-1)) hx hb dX11_moves_140 (by decide) ?_
        refine lv_ixor hx hb dX11_moves_141 ?_
        refine lv_iand hx hb dX11_moves_142 ?_
        refine lv_if_ne (tgt := 154) hx hb dX11_moves_143 (by decide) (fun hcd => ?_) (fun hcd => ?_)
        · have h := cdN hcd h
          refine lv_iconst (v := 0) hx hb dX11_moves_154 (by decide) ?_
          exact w155 _ ih σ14 x3 x4 x5 x6 x7 x8 0 H locs ls (by omega) (by omega) h hP hD hS (lv_sub hl [0, 1, 2, 3, 4, 5, 6] rfl)
        · have h := cdP hcd h
          refine lv_iload hx hb dX11_moves_146 (lv_at hl 8 rfl) ?_
          refine lv_iload hx hb dX11_moves_148 (lv_at hl 4 rfl) ?_
          refine lv_iand hx hb dX11_moves_150 ?_
          refine lv_goto (tgt := 155) hx hb dX11_moves_151 (by decide) ?_
          exact w155 _ ih σ14 x3 x4 x5 x6 x7 x8 (v16 &&& x6) H locs ls (by omega) (by omega) h hP hD hS (lv_sub hl [0, 1, 2, 3, 4, 5, 6] rfl)
  have w0 : ∀ (σ : S2) (x1 : Int32) (x2 : Int32) (x3 : Int32) (H : Heap) (locs : List Loc) (ls : Array Slot), fX11_moves_0 τ σ x1 x2 x3 = some (r0, σ9) → va_P (dC, dI) vwCl (wG (cC cy ad τ) ad (182 + 6 * nb) σ) H → va_D A (wG (cC cy ad τ) ad (182 + 6 * nb) σ) → va_S A s.heap H locs → lv_has ls 11 [(0, .ref (ad 0)), (1, .int x1), (2, .int x2), (3, .int x3)] → W p l e (headSpec wsX11_moves ({ frames := 6, cells := 0, slots := 0, locals := 136 })).room s m (#[.ref (ad 0), .int a1, .int a2, .int a3]) below meth c H locs 0 0 (MQ below (va_Qi (fun (r : Int32) (_ : Unit) => r = r0) (fun (_ : Unit) t => wAt (dC, dI) A (wG (cC cy ad τ) ad (182 + 6 * nb) σ9) t) A) (#[.ref (ad 0), .int a1, .int a2, .int a3]) s 0 0 A) (F0 m 0 ls []) := by
    intro σ x1 x2 x3 H locs ls h hP hD hS hl
    unfold fX11_moves_0 at h
    refine lv_aload_n hx hb dX11_moves_0 rfl (lv_at hl 0 rfl) ?_
    refine lv_iload_n hx hb dX11_moves_1 rfl (lv_at hl 1 rfl) ?_
    rcases btS h with ⟨hf17, h⟩ | ⟨b18, hf17, h⟩
    · have _ := hτ
      refine ux_callqN (va_runV (As := [.int x1]) (rest := []) ⟨hx, hb, hml, hown, hts⟩ (tX11_tableAt l dC dI cy ad τ nb hτ σ x1 H.size none hf17) (cwV 1 hts gX11_moves_X11_tableAt rfl rfl rfl (by decide +kernel) ⟨Nat.le_of_ble_eq_true rfl, Nat.le_of_ble_eq_true rfl⟩) (wp_V hK hN hP hD (va_recv hK hP (ci := 11) (q0 := 0) rfl (wG_of (Nat.lt_of_lt_of_le (Nat.le_of_ble_eq_true rfl : 0 < 182) (Nat.le_add_right _ _)) (cC_0 _ _ _ _ _)))) rfl rfl hl.1 rfl (lv_room (Nat.le_of_ble_eq_true rfl)) dX11_moves_2 ⟨Nat.le_of_ble_eq_true rfl, Nat.le_of_ble_eq_true rfl⟩) ?_
      refine lv_astoreN (lv' := [(4, .null), (0, .ref (ad 0)), (1, .int x1), (2, .int x2), (3, .int x3)]) hx hb dX11_moves_5 hl (by decide) rfl (fun ls hl => ?_)
      have hl := lv_sub hl [1, 2, 3, 4, 0] (l' := [(0, .ref (ad 0)), (1, .int x1), (2, .int x2), (3, .int x3), (4, .null)]) rfl
      refine lv_aload_n hx hb dX11_moves_7 rfl (lv_at hl 0 rfl) ?_
      refine lv_iload_n hx hb dX11_moves_8 rfl (lv_at hl 2 rfl) ?_
      rcases btS h with ⟨hf19, h⟩ | ⟨b20, hf19, h⟩
      · have _ := hτ
        refine ux_callqN (va_runV (As := [.int x2]) (rest := []) ⟨hx, hb, hml, hown, hts⟩ (tX11_tableAt l dC dI cy ad τ nb hτ σ x2 H.size none hf19) (cwV 1 hts gX11_moves_X11_tableAt rfl rfl rfl (by decide +kernel) ⟨Nat.le_of_ble_eq_true rfl, Nat.le_of_ble_eq_true rfl⟩) (wp_V hK hN hP hD (va_recv hK hP (ci := 11) (q0 := 0) rfl (wG_of (Nat.lt_of_lt_of_le (Nat.le_of_ble_eq_true rfl : 0 < 182) (Nat.le_add_right _ _)) (cC_0 _ _ _ _ _)))) rfl rfl hl.1 rfl (lv_room (Nat.le_of_ble_eq_true rfl)) dX11_moves_9 ⟨Nat.le_of_ble_eq_true rfl, Nat.le_of_ble_eq_true rfl⟩) ?_
        refine lv_astoreN (lv' := [(5, .null), (0, .ref (ad 0)), (1, .int x1), (2, .int x2), (3, .int x3), (4, .null)]) hx hb dX11_moves_12 hl (by decide) rfl (fun ls hl => ?_)
        have hl := lv_sub hl [1, 2, 3, 4, 5, 0] (l' := [(0, .ref (ad 0)), (1, .int x1), (2, .int x2), (3, .int x3), (4, .null), (5, .null)]) rfl
        refine lv_aloadN hx hb dX11_moves_14 (lv_at hl 4 rfl) ?_
        refine lv_ifnullN (tgt := 33) hx hb dX11_moves_16 (by decide) ?_
        refine lv_iconst (v := (-1)) hx hb dX11_moves_33 (by decide) ?_
        exact ux_iret hx hb hr h hP hD hS hlocks dX11_moves_34
      · have hb20 : b20 < nb := ux_tabB hτ hf19
        refine ux_callqS (va_runV (As := [.int x2]) (rest := []) ⟨hx, hb, hml, hown, hts⟩ (tX11_tableAt l dC dI cy ad τ nb hτ σ x2 H.size (some b20) hf19) (cwV 1 hts gX11_moves_X11_tableAt rfl rfl rfl (by decide +kernel) ⟨Nat.le_of_ble_eq_true rfl, Nat.le_of_ble_eq_true rfl⟩) (wp_V hK hN hP hD (va_recv hK hP (ci := 11) (q0 := 0) rfl (wG_of (Nat.lt_of_lt_of_le (Nat.le_of_ble_eq_true rfl : 0 < 182) (Nat.le_add_right _ _)) (cC_0 _ _ _ _ _)))) rfl rfl hl.1 rfl (lv_room (Nat.le_of_ble_eq_true rfl)) dX11_moves_9 ⟨Nat.le_of_ble_eq_true rfl, Nat.le_of_ble_eq_true rfl⟩) ?_
        refine lv_astore (lv' := [(5, .ref (ad (182 + 6 * b20))), (0, .ref (ad 0)), (1, .int x1), (2, .int x2), (3, .int x3), (4, .null)]) hx hb dX11_moves_12 hl (by decide) rfl (fun ls hl => ?_)
        have hl := lv_sub hl [1, 2, 3, 4, 5, 0] (l' := [(0, .ref (ad 0)), (1, .int x1), (2, .int x2), (3, .int x3), (4, .null), (5, .ref (ad (182 + 6 * b20)))]) rfl
        refine lv_aloadN hx hb dX11_moves_14 (lv_at hl 4 rfl) ?_
        refine lv_ifnullN (tgt := 33) hx hb dX11_moves_16 (by decide) ?_
        refine lv_iconst (v := (-1)) hx hb dX11_moves_33 (by decide) ?_
        exact ux_iret hx hb hr h hP hD hS hlocks dX11_moves_34
    · have hb18 : b18 < nb := ux_tabB hτ hf17
      refine ux_callqS (va_runV (As := [.int x1]) (rest := []) ⟨hx, hb, hml, hown, hts⟩ (tX11_tableAt l dC dI cy ad τ nb hτ σ x1 H.size (some b18) hf17) (cwV 1 hts gX11_moves_X11_tableAt rfl rfl rfl (by decide +kernel) ⟨Nat.le_of_ble_eq_true rfl, Nat.le_of_ble_eq_true rfl⟩) (wp_V hK hN hP hD (va_recv hK hP (ci := 11) (q0 := 0) rfl (wG_of (Nat.lt_of_lt_of_le (Nat.le_of_ble_eq_true rfl : 0 < 182) (Nat.le_add_right _ _)) (cC_0 _ _ _ _ _)))) rfl rfl hl.1 rfl (lv_room (Nat.le_of_ble_eq_true rfl)) dX11_moves_2 ⟨Nat.le_of_ble_eq_true rfl, Nat.le_of_ble_eq_true rfl⟩) ?_
      refine lv_astore (lv' := [(4, .ref (ad (182 + 6 * b18))), (0, .ref (ad 0)), (1, .int x1), (2, .int x2), (3, .int x3)]) hx hb dX11_moves_5 hl (by decide) rfl (fun ls hl => ?_)
      have hl := lv_sub hl [1, 2, 3, 4, 0] (l' := [(0, .ref (ad 0)), (1, .int x1), (2, .int x2), (3, .int x3), (4, .ref (ad (182 + 6 * b18)))]) rfl
      refine lv_aload_n hx hb dX11_moves_7 rfl (lv_at hl 0 rfl) ?_
      refine lv_iload_n hx hb dX11_moves_8 rfl (lv_at hl 2 rfl) ?_
      rcases btS h with ⟨hf21, h⟩ | ⟨b22, hf21, h⟩
      · have _ := hτ
        refine ux_callqN (va_runV (As := [.int x2]) (rest := []) ⟨hx, hb, hml, hown, hts⟩ (tX11_tableAt l dC dI cy ad τ nb hτ σ x2 H.size none hf21) (cwV 1 hts gX11_moves_X11_tableAt rfl rfl rfl (by decide +kernel) ⟨Nat.le_of_ble_eq_true rfl, Nat.le_of_ble_eq_true rfl⟩) (wp_V hK hN hP hD (va_recv hK hP (ci := 11) (q0 := 0) rfl (wG_of (Nat.lt_of_lt_of_le (Nat.le_of_ble_eq_true rfl : 0 < 182) (Nat.le_add_right _ _)) (cC_0 _ _ _ _ _)))) rfl rfl hl.1 rfl (lv_room (Nat.le_of_ble_eq_true rfl)) dX11_moves_9 ⟨Nat.le_of_ble_eq_true rfl, Nat.le_of_ble_eq_true rfl⟩) ?_
        refine lv_astoreN (lv' := [(5, .null), (0, .ref (ad 0)), (1, .int x1), (2, .int x2), (3, .int x3), (4, .ref (ad (182 + 6 * b18)))]) hx hb dX11_moves_12 hl (by decide) rfl (fun ls hl => ?_)
        have hl := lv_sub hl [1, 2, 3, 4, 5, 0] (l' := [(0, .ref (ad 0)), (1, .int x1), (2, .int x2), (3, .int x3), (4, .ref (ad (182 + 6 * b18))), (5, .null)]) rfl
        refine lv_aload hx hb dX11_moves_14 (lv_at hl 4 rfl) ?_
        refine lv_ifnull hx hb dX11_moves_16 ?_
        refine lv_aloadN hx hb dX11_moves_19 (lv_at hl 5 rfl) ?_
        refine lv_ifnullN (tgt := 33) hx hb dX11_moves_21 (by decide) ?_
        refine lv_iconst (v := (-1)) hx hb dX11_moves_33 (by decide) ?_
        exact ux_iret hx hb hr h hP hD hS hlocks dX11_moves_34
      · have hb22 : b22 < nb := ux_tabB hτ hf21
        refine ux_callqS (va_runV (As := [.int x2]) (rest := []) ⟨hx, hb, hml, hown, hts⟩ (tX11_tableAt l dC dI cy ad τ nb hτ σ x2 H.size (some b22) hf21) (cwV 1 hts gX11_moves_X11_tableAt rfl rfl rfl (by decide +kernel) ⟨Nat.le_of_ble_eq_true rfl, Nat.le_of_ble_eq_true rfl⟩) (wp_V hK hN hP hD (va_recv hK hP (ci := 11) (q0 := 0) rfl (wG_of (Nat.lt_of_lt_of_le (Nat.le_of_ble_eq_true rfl : 0 < 182) (Nat.le_add_right _ _)) (cC_0 _ _ _ _ _)))) rfl rfl hl.1 rfl (lv_room (Nat.le_of_ble_eq_true rfl)) dX11_moves_9 ⟨Nat.le_of_ble_eq_true rfl, Nat.le_of_ble_eq_true rfl⟩) ?_
        refine lv_astore (lv' := [(5, .ref (ad (182 + 6 * b22))), (0, .ref (ad 0)), (1, .int x1), (2, .int x2), (3, .int x3), (4, .ref (ad (182 + 6 * b18)))]) hx hb dX11_moves_12 hl (by decide) rfl (fun ls hl => ?_)
        have hl := lv_sub hl [1, 2, 3, 4, 5, 0] (l' := [(0, .ref (ad 0)), (1, .int x1), (2, .int x2), (3, .int x3), (4, .ref (ad (182 + 6 * b18))), (5, .ref (ad (182 + 6 * b22)))]) rfl
        refine lv_aload hx hb dX11_moves_14 (lv_at hl 4 rfl) ?_
        refine lv_ifnull hx hb dX11_moves_16 ?_
        refine lv_aload hx hb dX11_moves_19 (lv_at hl 5 rfl) ?_
        refine lv_ifnull hx hb dX11_moves_21 ?_
        refine lv_iload_n hx hb dX11_moves_24 rfl (lv_at hl 3 rfl) ?_
        refine lv_if_lt (tgt := 33) hx hb dX11_moves_25 (by decide) (fun hcd => ?_) (fun hcd => ?_)
        · have h := cdP hcd h
          refine lv_iconst (v := (-1)) hx hb dX11_moves_33 (by decide) ?_
          exact ux_iret hx hb hr h hP hD hS hlocks dX11_moves_34
        · have h := cdN hcd h
          refine lv_iload_n hx hb dX11_moves_28 rfl (lv_at hl 3 rfl) ?_
          refine lv_iconst (v := 1) hx hb dX11_moves_29 (by decide) ?_
          refine lv_icmp_le (tgt := 35) hx hb dX11_moves_30 (by decide) (fun hcd => ?_) (fun hcd => ?_)
          · have h := cdP hcd h
            refine lv_aload hx hb dX11_moves_35 (lv_at hl 4 rfl) ?_
            refine lv_aload hx hb dX11_moves_37 (lv_at hl 5 rfl) ?_
            obtain ⟨r23, hf24, h⟩ := biS h
            refine ux_calli (va_runV (As := [.ref (ad (182 + 6 * b22))]) (rest := []) ⟨hx, hb, hml, hown, hts⟩ (tX8_alikeIn l dC dI cy ad τ nb hτ b18 (by omega) b22 (by omega) σ H.size r23 hf24) (cwV 1 hts gX11_moves_X8_alikeIn rfl rfl rfl (by decide +kernel) ⟨Nat.le_of_ble_eq_true rfl, Nat.le_of_ble_eq_true rfl⟩) (wp_V hK hN hP hD (va_recv hK hP (ci := 8) (q0 := (182 + 6 * b18)) rfl (wG_of (by omega) (cC_t0 _ _ _ _ _ b18)))) rfl rfl hl.1 rfl (lv_room (Nat.le_of_ble_eq_true rfl)) dX11_moves_39 ⟨Nat.le_of_ble_eq_true rfl, Nat.le_of_ble_eq_true rfl⟩) hD hS hA (fun H locs hP hD hS => ?_)
            refine lv_istore (lv' := [(6, .int r23), (0, .ref (ad 0)), (1, .int x1), (2, .int x2), (3, .int x3), (4, .ref (ad (182 + 6 * b18))), (5, .ref (ad (182 + 6 * b22)))]) hx hb dX11_moves_42 hl (by decide) rfl (fun ls hl => ?_)
            have hl := lv_sub hl [1, 2, 3, 4, 5, 6, 0] (l' := [(0, .ref (ad 0)), (1, .int x1), (2, .int x2), (3, .int x3), (4, .ref (ad (182 + 6 * b18))), (5, .ref (ad (182 + 6 * b22))), (6, .int r23)]) rfl
            refine lv_iconst (v := 0) hx hb dX11_moves_44 (by decide) ?_
            refine lv_istore (lv' := [(7, .int 0), (0, .ref (ad 0)), (1, .int x1), (2, .int x2), (3, .int x3), (4, .ref (ad (182 + 6 * b18))), (5, .ref (ad (182 + 6 * b22))), (6, .int r23)]) hx hb dX11_moves_45 hl (by decide) rfl (fun ls hl => ?_)
            have hl := lv_sub hl [1, 2, 3, 4, 5, 6, 7, 0] (l' := [(0, .ref (ad 0)), (1, .int x1), (2, .int x2), (3, .int x3), (4, .ref (ad (182 + 6 * b18))), (5, .ref (ad (182 + 6 * b22))), (6, .int r23), (7, .int 0)]) rfl
            refine lv_iconst (v := 0) hx hb dX11_moves_47 (by decide) ?_
            refine lv_istore (lv' := [(8, .int 0), (0, .ref (ad 0)), (1, .int x1), (2, .int x2), (3, .int x3), (4, .ref (ad (182 + 6 * b18))), (5, .ref (ad (182 + 6 * b22))), (6, .int r23), (7, .int 0)]) hx hb dX11_moves_48 hl (by decide) rfl (fun ls hl => ?_)
            have hl := lv_sub hl [1, 2, 3, 4, 5, 6, 7, 8, 0] (l' := [(0, .ref (ad 0)), (1, .int x1), (2, .int x2), (3, .int x3), (4, .ref (ad (182 + 6 * b18))), (5, .ref (ad (182 + 6 * b22))), (6, .int r23), (7, .int 0), (8, .int 0)]) rfl
            exact w50 FU σ x3 b18 b22 r23 0 0 H locs ls (by omega) (by omega) h hP hD hS (lv_sub hl [0, 3, 4, 5, 6, 7, 8] rfl)
          · have h := cdN hcd h
            refine lv_iconst (v := (-1)) hx hb dX11_moves_33 (by decide) ?_
            exact ux_iret hx hb hr h hP hD hS hlocks dX11_moves_34
  intro H locs ls h hP hD hS hl
  exact w0 σ a1 a2 a3 H locs ls h hP hD hS (lv_sub hl [0, 1, 2, 3] rfl)

