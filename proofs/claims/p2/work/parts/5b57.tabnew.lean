set_option maxHeartbeats 4000000 in
set_option maxRecDepth 100000 in
theorem tab_new (l : Launch) (dC : Nat → ClassId) (dI : Nat → Nat → Nat) (cy : Nat → ClassId) (ad : Nat → Nat) (τ nb : Nat) (hτ : τ < nb) (hnb : nb = τ + 1) {p : Program} {e : Env} {s : State} {m : MethodId} {args : Array Value} {below : List Frame} {meth : Method} {c : Code} {H : Heap} {locs : List Loc} {ls : Array Slot} {A : Nat → Prop} {σ σ9 : S2} {x2 r0 : Int32} {δ : Nat} (hx : p.tables.exec = Jvm.exec) (hb : c.code = cX11_table) (hml : c.maxLocals = 6) (hr : meth.sig.returnType = some .int) (hlocks : meth.locks = false) (hown : s.vm.findClass RX11 = some m.cls) (hts : ∀ w ∈ wsX11_table, w.before args s = true) (hK : va_K (dC, dI) vwCl (tyl cy) s) (hN : NW s) (hP : va_P (dC, dI) vwCl (wG (cC cy ad τ) ad (182 + 6 * nb) σ) H) (hD : va_D A (wG (cC cy ad τ) ad (182 + 6 * nb) σ)) (hS : va_S A s.heap H locs) (hA : ∀ q : Nat, s.heap.size ≤ q → A q) (hl : lv_has ls 6 [(0, .ref (ad 0)), (2, .int x2)]) (h : tabNew τ σ x2 = some (r0, δ, σ9)) : W p l e (headSpec wsX11_table ({ frames := 30, cells := 6, slots := 2117, locals := 738 })).room s m args below meth c H locs 0 0 (MQ below (QT dC dI cy ad τ nb r0 δ σ9 A) args s 6 2117 A) (F0 m 108 ls []) := by
  subst hnb
  refine va_new (ci := 8) (fs := [.int 0, .int 0, .int 0, .int 0, .int 0, .int 0, .int 0, .int 0, .null, .null, .null, .null, .null]) (C := RX8) (T := TX8) (N := 13) hx hb hts (fun _ h9 => List.mem_cons_of_mem _ (List.mem_append_left _ (List.mem_append_right _ h9))) tyX8 tyX8_ok hown (hts (.classLink RX11 46 RX8) (List.mem_of_getElem? (i := 9) rfl)) (hts (.instantiable RX8 13) (List.mem_of_getElem? (i := 10) rfl)) (hts (.initialized RX8) (List.mem_of_getElem? (i := 11) rfl)) hK hP hD hS hA rfl (fun j hj => vz_dfX8 j hj) (Nat.le_of_ble_eq_true rfl) (Nat.le_of_ble_eq_true rfl) dX11_table_108 (fun q H hP hD hS => ?_)
  refine W.widen (k := 1) (n := 13) (Nat.le_of_ble_eq_true rfl) (Nat.le_of_ble_eq_true rfl) ?_
  refine lv_dup hx hb dX11_table_111 rfl ?_
  have hP := tb_swP hP
  have hD := tb_swD hD
  have hPc := tb_lP hP
  have hDc := tb_lD hD
  have hFc := fr_A hDc hS hA
  refine va_callv (va_runIN (As := []) (rest := [.ref q]) ⟨hx, hb, hml, hown, hts⟩ (i_Table l dC dI cy q H.size) ⟨va_cnB 0 hts gX11_table_X8_init_n56 rfl rfl rfl (hN.1 _ (List.mem_of_getElem? (i := 4) rfl)) (hts (.initialized RX8) (List.mem_of_getElem? (i := 11) rfl)) (by decide +kernel) ⟨Nat.le_of_ble_eq_true rfl, Nat.le_of_ble_eq_true rfl⟩, rfl, (hts (.instanceMethod yX8_init) (List.mem_of_getElem? (i := 115) rfl))⟩ (wp_S hK hN hPc hDc) rfl rfl hl.1 rfl (lv_room (Nat.le_of_ble_eq_true rfl)) dX11_table_112 ⟨Nat.le_of_ble_eq_true rfl, Nat.le_of_ble_eq_true rfl⟩) hS (fun q _ h => hFc q h) hFc (fun u t H1 locs ht hvm hw hB hz1 hk1 hS => ?_)
  obtain ⟨hP1, hD1⟩ := hB
  rw [ht] at hP1
  obtain ⟨hP, hD⟩ := tb_fj hP hD hk1 hFc hP1 hD1
  generalize H1 = H at hP hS ⊢
  have hP := tb_swP hP
  have hD := tb_swD hD
  rw [tb_ext cy ad τ (τ + 1) hτ q u σ] at hP hD
  have hq : adT ad (τ + 1) q u (182 + 6 * (τ + 1)) = q := by
    unfold adT
    rw [if_neg (by omega), if_pos rfl]
  have h0 : adT ad (τ + 1) q u 0 = ad 0 := by
    unfold adT
    rw [if_pos (by omega)]
  refine W.widen (k := 6) (n := 2117) (Nat.le_of_ble_eq_true rfl) (Nat.le_of_ble_eq_true rfl) ?_
  refine lv_astore (lv' := [(5, .ref q), (0, .ref (ad 0)), (2, .int x2)]) hx hb dX11_table_115 hl (by decide) rfl (fun ls hl => ?_)
  refine tab_rest l dC dI cy (adT ad (τ + 1) q u) τ (τ + 1 + 1) (by omega) rfl ad (fun k hk => ?_) hx hb hml hr hlocks hown hts hK hN hP hD hS hA ?_ h
  · unfold adT
    rw [if_pos hk]
  · rw [hq, h0]; exact lv_sub hl [1, 2, 0] rfl
set_option maxHeartbeats 4000000 in
set_option maxRecDepth 100000 in
theorem tX11_table (l : Launch) (dC : Nat → ClassId) (dI : Nat → Nat → Nat) (cy : Nat → ClassId) (ad : Nat → Nat) (τ nb : Nat) (hτ : τ < nb) (hnb : nb = τ + 1) (σ : S2) (a1 : Int32) (a2 : Int32) (sz : Nat) (r0 : Int32) (δ : Nat) (σ9 : S2) (h : fX11_table τ σ a1 a2 = some (r0, δ, σ9)) : Met l yX11_table wsX11_table ({ frames := 30, cells := 6, slots := 2117, locals := 738 }) (va_Pc [.ref (ad 0), .int a1, .int a2] (wPre (dC, dI) cy (wG (cC cy ad τ) ad (182 + 6 * nb) σ) sz)) (QT dC dI cy ad τ nb r0 δ σ9 (va_A (wG (cC cy ad τ) ad (182 + 6 * nb) σ) sz)) 6 2117 (va_A (wG (cC cy ad τ) ad (182 + 6 * nb) σ) sz) := by
  refine Met.ofW (cc := cX11_table) (maxL := 6) (ret := (some .int)) (by decide) rfl ?_
  intro p e s m args below meth c s₁ B hml hv
  obtain ⟨rfl, hsz, hP, hK, hD0, hN⟩ := hv
  have hx := B.exec
  have hb := B.bytes
  have hr := B.returns
  have hts := atoms_spec (ws := wsX11_table) B.pre
  have hown : s.vm.findClass RX11 = some m.cls := findClass_of_methodNamed B.named
  have hlocks := B.notSynchronized
  subst hsz
  have hD := hD0.self (sz := s.heap.size)
  generalize hAe : va_A (wG (cC cy ad τ) ad (182 + 6 * nb) σ) s.heap.size = A at hD ⊢
  have hA : ∀ q : Nat, s.heap.size ≤ q → A q := fun q h => by rw [← hAe]; exact Or.inr h
  have hS : va_S A s.heap s.heap [] := va_S.rf
  have hl := lv_entry ([.ref (ad 0), .int a1, .int a2]) (n := 6) (Nat.le_of_ble_eq_true rfl)
  rw [lg_entry_eq]
  generalize (lg_sl ([.ref (ad 0), .int a1, .int a2]) ++ List.replicate (6 - (lg_sl ([.ref (ad 0), .int a1, .int a2])).length) Slot.unset).toArray = ls at hl ⊢
  have hl : lv_has ls 6 [(0, .ref (ad 0)), (1, .int a1), (2, .int a2)] := hl
  unfold fX11_table at h
  clear hAe hD0
  suffices HH : ∀ (H : Heap) (locs : List Loc) (ls : Array Slot), fX11_table_0 τ σ a1 a2 = some (r0, δ, σ9) → va_P (dC, dI) vwCl (wG (cC cy ad τ) ad (182 + 6 * nb) σ) H → va_D A (wG (cC cy ad τ) ad (182 + 6 * nb) σ) → va_S A s.heap H locs → lv_has ls 6 [(0, .ref (ad 0)), (1, .int a1), (2, .int a2)] → W p l e (headSpec wsX11_table ({ frames := 30, cells := 6, slots := 2117, locals := 738 })).room s m (#[.ref (ad 0), .int a1, .int a2]) below meth c H locs 0 0 (MQ below (QT dC dI cy ad τ nb r0 δ σ9 A) (#[.ref (ad 0), .int a1, .int a2]) s 6 2117 A) (F0 m 0 ls []) from HH s.heap [] ls h hP hD hS hl
  have w0 : ∀ (σ : S2) (x1 : Int32) (x2 : Int32) (H : Heap) (locs : List Loc) (ls : Array Slot), fX11_table_0 τ σ x1 x2 = some (r0, δ, σ9) → va_P (dC, dI) vwCl (wG (cC cy ad τ) ad (182 + 6 * nb) σ) H → va_D A (wG (cC cy ad τ) ad (182 + 6 * nb) σ) → va_S A s.heap H locs → lv_has ls 6 [(0, .ref (ad 0)), (1, .int x1), (2, .int x2)] → W p l e (headSpec wsX11_table ({ frames := 30, cells := 6, slots := 2117, locals := 738 })).room s m (#[.ref (ad 0), .int a1, .int a2]) below meth c H locs 0 0 (MQ below (QT dC dI cy ad τ nb r0 δ σ9 A) (#[.ref (ad 0), .int a1, .int a2]) s 6 2117 A) (F0 m 0 ls []) := by
    intro σ x1 x2 H locs ls h hP hD hS hl
    unfold fX11_table_0 at h
    refine lv_iconst (v := 1) hx hb dX11_table_0 (by decide) ?_
    refine lv_aload_n hx hb dX11_table_1 rfl (lv_at hl 0 rfl) ?_
    refine ux_get (D := (dC, dI)) (ci := 11) (v := .ref (ad 7)) (C := RX11) (T := TX11) (M := 13) (fs := (oSR ad (σ.1 0))) hx hb hts (fun _ h9 => List.mem_cons_of_mem _ (List.mem_append_left _ (List.mem_append_left _ (List.mem_append_left _ (List.mem_append_left _ (List.mem_append_right _ h9)))))) hown hK hP 0 (Nat.lt_of_lt_of_le (Nat.le_of_ble_eq_true rfl : 0 < 182) (Nat.le_add_right _ _)) (cC_0 _ _ _ _ _) rfl 2 (by decide) (hts (.fieldLink RX11 26 "SeatsRound" "keepers" "LSeatsRound$Keepers;") (List.mem_of_getElem? (i := 1) rfl)) (fun _ h9 => h9) rfl dX11_table_2 ?_
    refine ux_get (D := (dC, dI)) (ci := 2) (v := .int (σ.1 7 5)) (C := RX2) (T := TX2) (M := 6) (fs := (oKP ad (σ.1 7))) hx hb hts (fun _ h9 => List.mem_cons_of_mem _ (List.mem_append_left _ (List.mem_append_left _ (List.mem_append_left _ (List.mem_append_right _ h9))))) hown hK hP 7 (Nat.lt_of_lt_of_le (Nat.le_of_ble_eq_true rfl : 7 < 182) (Nat.le_add_right _ _)) (cC_7 _ _ _ _ _) rfl 5 (by decide) (hts (.fieldLink RX11 134 "SeatsRound$Keepers" "count" "I") (List.mem_of_getElem? (i := 2) rfl)) (fun _ h9 => h9) rfl dX11_table_5 ?_
    refine lv_ishl hx hb dX11_table_8 ?_
    refine lv_iconst (v := 1) hx hb dX11_table_9 (by decide) ?_
    refine lv_isub hx hb dX11_table_10 ?_
    refine lv_topi (fun v1 ev1 => ?_)
    have h := nmS h ev1
    refine lv_istore_n (lv' := [(3, .int v1), (0, .ref (ad 0)), (1, .int x1), (2, .int x2)]) hx hb dX11_table_11 rfl hl (by decide) rfl (fun ls hl => ?_)
    have hl := lv_sub hl [1, 2, 3, 0] (l' := [(0, .ref (ad 0)), (1, .int x1), (2, .int x2), (3, .int v1)]) rfl
    change W _ _ _ _ _ _ _ _ _ _ _ _ _ _ _ (F0 m 12 ls [])
    refine lv_iload_n hx hb dX11_table_12 rfl (lv_at hl 1 rfl) ?_
    refine lv_if_eq (tgt := 24) hx hb dX11_table_13 (by decide) (fun hcd => ?_) (fun hcd => ?_)
    · have h := cdP hcd h
      refine lv_iconst (v := (-1)) hx hb dX11_table_24 (by decide) ?_
      exact ux_iretT hx hb hr h hP hD hS hlocks dX11_table_25
    · have h := cdN hcd h
      refine lv_iload_n hx hb dX11_table_16 rfl (lv_at hl 1 rfl) ?_
      refine lv_iload_n hx hb dX11_table_17 rfl (lv_at hl 3 rfl) ?_
      refine lv_iconst (v := (-1)) hx hb dX11_table_18 (by decide) ?_
      refine lv_ixor hx hb dX11_table_19 ?_
      refine lv_iand hx hb dX11_table_20 ?_
      refine lv_if_eq (tgt := 26) hx hb dX11_table_21 (by decide) (fun hcd => ?_) (fun hcd => ?_)
      · have h := cdP hcd h
        refine lv_aload_n hx hb dX11_table_26 rfl (lv_at hl 0 rfl) ?_
        refine ux_get (D := (dC, dI)) (ci := 11) (v := .int (σ.1 0 6)) (C := RX11) (T := TX11) (M := 13) (fs := (oSR ad (σ.1 0))) hx hb hts (fun _ h9 => List.mem_cons_of_mem _ (List.mem_append_left _ (List.mem_append_left _ (List.mem_append_left _ (List.mem_append_left _ (List.mem_append_right _ h9)))))) hown hK hP 0 (Nat.lt_of_lt_of_le (Nat.le_of_ble_eq_true rfl : 0 < 182) (Nat.le_add_right _ _)) (cC_0 _ _ _ _ _) rfl 6 (by decide) (hts (.fieldLink RX11 52 "SeatsRound" "tableCount" "I") (List.mem_of_getElem? (i := 3) rfl)) (fun _ h9 => h9) rfl dX11_table_27 ?_
        refine lv_bipush (v := 10) hx hb dX11_table_30 (by decide) ?_
        refine lv_icmp_lt (tgt := 38) hx hb dX11_table_32 (by decide) (fun hcd => ?_) (fun hcd => ?_)
        · have h := cdP hcd h
          refine lv_aload_n hx hb dX11_table_38 rfl (lv_at hl 0 rfl) ?_
          refine ux_get (D := (dC, dI)) (ci := 11) (v := .ref (ad 182)) (C := RX11) (T := TX11) (M := 13) (fs := (oSR ad (σ.1 0))) hx hb hts (fun _ h9 => List.mem_cons_of_mem _ (List.mem_append_left _ (List.mem_append_left _ (List.mem_append_left _ (List.mem_append_left _ (List.mem_append_right _ h9)))))) hown hK hP 0 (Nat.lt_of_lt_of_le (Nat.le_of_ble_eq_true rfl : 0 < 182) (Nat.le_add_right _ _)) (cC_0 _ _ _ _ _) rfl 7 (by decide) (hts (.fieldLink RX11 57 "SeatsRound" "draft" "LSeatsRound$Table;") (List.mem_of_getElem? (i := 4) rfl)) (fun _ h9 => h9) rfl dX11_table_39 ?_
          refine lv_iload_n hx hb dX11_table_42 rfl (lv_at hl 1 rfl) ?_
          refine lv_aload_n hx hb dX11_table_43 rfl (lv_at hl 0 rfl) ?_
          refine ux_get (D := (dC, dI)) (ci := 11) (v := .ref (ad 7)) (C := RX11) (T := TX11) (M := 13) (fs := (oSR ad (σ.1 0))) hx hb hts (fun _ h9 => List.mem_cons_of_mem _ (List.mem_append_left _ (List.mem_append_left _ (List.mem_append_left _ (List.mem_append_left _ (List.mem_append_right _ h9)))))) hown hK hP 0 (Nat.lt_of_lt_of_le (Nat.le_of_ble_eq_true rfl : 0 < 182) (Nat.le_add_right _ _)) (cC_0 _ _ _ _ _) rfl 2 (by decide) (hts (.fieldLink RX11 26 "SeatsRound" "keepers" "LSeatsRound$Keepers;") (List.mem_of_getElem? (i := 1) rfl)) (fun _ h9 => h9) rfl dX11_table_44 ?_
          obtain ⟨r2, σ3, hf4, h⟩ := bsS h
          refine ux_callv (va_runV (As := [.int x1, .ref (ad 7)]) (rest := []) ⟨hx, hb, hml, hown, hts⟩ (tX8_takeMembers l dC dI cy ad τ nb hτ 0 (by omega) σ x1 H.size r2 σ3 hf4) (cwV 2 hts gX11_table_X8_takeMembers rfl rfl rfl (by decide +kernel) ⟨Nat.le_of_ble_eq_true rfl, Nat.le_of_ble_eq_true rfl⟩) (wp_V hK hN hP hD (va_recv hK hP (ci := 8) (q0 := 182) rfl (wG_of (by omega) (cC_t0 _ _ _ _ _ 0)))) rfl rfl hl.1 rfl (lv_room (Nat.le_of_ble_eq_true rfl)) dX11_table_47 ⟨Nat.le_of_ble_eq_true rfl, Nat.le_of_ble_eq_true rfl⟩) hD hS hA (fun H locs hP hD hS => ?_)
          refine lv_aload_n hx hb dX11_table_50 rfl (lv_at hl 0 rfl) ?_
          refine ux_get (D := (dC, dI)) (ci := 11) (v := .ref (ad 182)) (C := RX11) (T := TX11) (M := 13) (fs := (oSR ad (σ3.1 0))) hx hb hts (fun _ h9 => List.mem_cons_of_mem _ (List.mem_append_left _ (List.mem_append_left _ (List.mem_append_left _ (List.mem_append_left _ (List.mem_append_right _ h9)))))) hown hK hP 0 (Nat.lt_of_lt_of_le (Nat.le_of_ble_eq_true rfl : 0 < 182) (Nat.le_add_right _ _)) (cC_0 _ _ _ _ _) rfl 7 (by decide) (hts (.fieldLink RX11 57 "SeatsRound" "draft" "LSeatsRound$Table;") (List.mem_of_getElem? (i := 4) rfl)) (fun _ h9 => h9) rfl dX11_table_51 ?_
          refine lv_aload_n hx hb dX11_table_54 rfl (lv_at hl 0 rfl) ?_
          refine ux_get (D := (dC, dI)) (ci := 11) (v := .ref (ad 1)) (C := RX11) (T := TX11) (M := 13) (fs := (oSR ad (σ3.1 0))) hx hb hts (fun _ h9 => List.mem_cons_of_mem _ (List.mem_append_left _ (List.mem_append_left _ (List.mem_append_left _ (List.mem_append_left _ (List.mem_append_right _ h9)))))) hown hK hP 0 (Nat.lt_of_lt_of_le (Nat.le_of_ble_eq_true rfl : 0 < 182) (Nat.le_add_right _ _)) (cC_0 _ _ _ _ _) rfl 0 (by decide) (hts (.fieldLink RX11 10 "SeatsRound" "tape" "LSeatsRound$Tape;") (List.mem_of_getElem? (i := 5) rfl)) (fun _ h9 => h9) rfl dX11_table_55 ?_
          refine ux_get (D := (dC, dI)) (ci := 9) (v := .ref (ad 2)) (C := RX9) (T := TX9) (M := 2) (fs := (oTP ad (σ3.1 1))) hx hb hts (fun _ h9 => List.mem_cons_of_mem _ (List.mem_append_left _ (List.mem_append_left _ (List.mem_append_right _ h9)))) hown hK hP 1 (Nat.lt_of_lt_of_le (Nat.le_of_ble_eq_true rfl : 1 < 182) (Nat.le_add_right _ _)) (cC_1 _ _ _ _ _) rfl 0 (by decide) (hts (.fieldLink RX11 109 "SeatsRound$Tape" "bytes" "[B") (List.mem_of_getElem? (i := 6) rfl)) (fun _ h9 => h9) rfl dX11_table_58 ?_
          refine lv_aload_n hx hb dX11_table_61 rfl (lv_at hl 0 rfl) ?_
          refine ux_get (D := (dC, dI)) (ci := 11) (v := .ref (ad 1)) (C := RX11) (T := TX11) (M := 13) (fs := (oSR ad (σ3.1 0))) hx hb hts (fun _ h9 => List.mem_cons_of_mem _ (List.mem_append_left _ (List.mem_append_left _ (List.mem_append_left _ (List.mem_append_left _ (List.mem_append_right _ h9)))))) hown hK hP 0 (Nat.lt_of_lt_of_le (Nat.le_of_ble_eq_true rfl : 0 < 182) (Nat.le_add_right _ _)) (cC_0 _ _ _ _ _) rfl 0 (by decide) (hts (.fieldLink RX11 10 "SeatsRound" "tape" "LSeatsRound$Tape;") (List.mem_of_getElem? (i := 5) rfl)) (fun _ h9 => h9) rfl dX11_table_62 ?_
          refine ux_get (D := (dC, dI)) (ci := 9) (v := .int (σ3.1 1 1)) (C := RX9) (T := TX9) (M := 2) (fs := (oTP ad (σ3.1 1))) hx hb hts (fun _ h9 => List.mem_cons_of_mem _ (List.mem_append_left _ (List.mem_append_left _ (List.mem_append_right _ h9)))) hown hK hP 1 (Nat.lt_of_lt_of_le (Nat.le_of_ble_eq_true rfl : 1 < 182) (Nat.le_add_right _ _)) (cC_1 _ _ _ _ _) rfl 1 (by decide) (hts (.fieldLink RX11 102 "SeatsRound$Tape" "length" "I") (List.mem_of_getElem? (i := 7) rfl)) (fun _ h9 => h9) rfl dX11_table_65 ?_
          change W _ _ _ _ _ _ _ _ _ _ _ _ _ _ _ (F0 m 68 ls [.int (σ3.1 1 1), .ref (ad 2), .ref (ad 182)])
          obtain ⟨r5, σ6, hf7, h⟩ := bsS h
          refine ux_callv (va_runV (As := [.ref (ad 2), .int (σ3.1 1 1)]) (rest := []) ⟨hx, hb, hml, hown, hts⟩ (tX8_takeLaw l dC dI cy ad τ nb hτ 0 (by omega) 2 80 (Nat.lt_of_lt_of_le (Nat.le_of_ble_eq_true rfl : 2 < 182) (Nat.le_add_right _ _)) (fun _ _ => (cC_2 _ _ _ _ _)) σ3 (σ3.1 1 1) H.size r5 σ6 hf7) (cwV 2 hts gX11_table_X8_takeLaw rfl rfl rfl (by decide +kernel) ⟨Nat.le_of_ble_eq_true rfl, Nat.le_of_ble_eq_true rfl⟩) (wp_V hK hN hP hD (va_recv hK hP (ci := 8) (q0 := 182) rfl (wG_of (by omega) (cC_t0 _ _ _ _ _ 0)))) rfl rfl hl.1 rfl (lv_room (Nat.le_of_ble_eq_true rfl)) dX11_table_68 ⟨Nat.le_of_ble_eq_true rfl, Nat.le_of_ble_eq_true rfl⟩) hD hS hA (fun H locs hP hD hS => ?_)
          refine lv_aload_n hx hb dX11_table_71 rfl (lv_at hl 0 rfl) ?_
          refine ux_get (D := (dC, dI)) (ci := 11) (v := .ref (ad 1)) (C := RX11) (T := TX11) (M := 13) (fs := (oSR ad (σ6.1 0))) hx hb hts (fun _ h9 => List.mem_cons_of_mem _ (List.mem_append_left _ (List.mem_append_left _ (List.mem_append_left _ (List.mem_append_left _ (List.mem_append_right _ h9)))))) hown hK hP 0 (Nat.lt_of_lt_of_le (Nat.le_of_ble_eq_true rfl : 0 < 182) (Nat.le_add_right _ _)) (cC_0 _ _ _ _ _) rfl 0 (by decide) (hts (.fieldLink RX11 10 "SeatsRound" "tape" "LSeatsRound$Tape;") (List.mem_of_getElem? (i := 5) rfl)) (fun _ h9 => h9) rfl dX11_table_72 ?_
          refine lv_iconst (v := 0) hx hb dX11_table_75 (by decide) ?_
          refine ux_put (D := (dC, dI)) (ci := 9) (C := RX9) (T := TX9) (M := 2) (fs := (oTP ad (σ6.1 1))) hx hb hts (fun _ h9 => List.mem_cons_of_mem _ (List.mem_append_left _ (List.mem_append_left _ (List.mem_append_right _ h9)))) tyX9 tyX9_ok nmX9 hown hK hP hD hS 1 (Nat.lt_of_lt_of_le (Nat.le_of_ble_eq_true rfl : 1 < 182) (Nat.le_add_right _ _)) (cC_1 _ _ _ _ _) rfl 1 (by decide) (hts (.fieldLink RX11 102 "SeatsRound$Tape" "length" "I") (List.mem_of_getElem? (i := 7) rfl)) (fun _ h9 => h9) rfl (tyX9_ok 1 (by decide)) rfl rfl (Nat.le_of_ble_eq_true rfl) (oC_1_1 _ _ _ _ _ _) h dX11_table_76 (fun σ8 H locs h hP hD hS => ?_)
          refine lv_aload_n hx hb dX11_table_79 rfl (lv_at hl 0 rfl) ?_
          refine ux_get (D := (dC, dI)) (ci := 11) (v := .ref (ad 13)) (C := RX11) (T := TX11) (M := 13) (fs := (oSR ad (σ8.1 0))) hx hb hts (fun _ h9 => List.mem_cons_of_mem _ (List.mem_append_left _ (List.mem_append_left _ (List.mem_append_left _ (List.mem_append_left _ (List.mem_append_right _ h9)))))) hown hK hP 0 (Nat.lt_of_lt_of_le (Nat.le_of_ble_eq_true rfl : 0 < 182) (Nat.le_add_right _ _)) (cC_0 _ _ _ _ _) rfl 3 (by decide) (hts (.fieldLink RX11 33 "SeatsRound" "law" "LSeatsRound$Law;") (List.mem_of_getElem? (i := 8) rfl)) (fun _ h9 => h9) rfl dX11_table_80 ?_
          refine lv_aload_n hx hb dX11_table_83 rfl (lv_at hl 0 rfl) ?_
          refine ux_get (D := (dC, dI)) (ci := 11) (v := .ref (ad 182)) (C := RX11) (T := TX11) (M := 13) (fs := (oSR ad (σ8.1 0))) hx hb hts (fun _ h9 => List.mem_cons_of_mem _ (List.mem_append_left _ (List.mem_append_left _ (List.mem_append_left _ (List.mem_append_left _ (List.mem_append_right _ h9)))))) hown hK hP 0 (Nat.lt_of_lt_of_le (Nat.le_of_ble_eq_true rfl : 0 < 182) (Nat.le_add_right _ _)) (cC_0 _ _ _ _ _) rfl 7 (by decide) (hts (.fieldLink RX11 57 "SeatsRound" "draft" "LSeatsRound$Table;") (List.mem_of_getElem? (i := 4) rfl)) (fun _ h9 => h9) rfl dX11_table_84 ?_
          refine lv_aload_n hx hb dX11_table_87 rfl (lv_at hl 0 rfl) ?_
          refine ux_get (D := (dC, dI)) (ci := 11) (v := .ref (ad 7)) (C := RX11) (T := TX11) (M := 13) (fs := (oSR ad (σ8.1 0))) hx hb hts (fun _ h9 => List.mem_cons_of_mem _ (List.mem_append_left _ (List.mem_append_left _ (List.mem_append_left _ (List.mem_append_left _ (List.mem_append_right _ h9)))))) hown hK hP 0 (Nat.lt_of_lt_of_le (Nat.le_of_ble_eq_true rfl : 0 < 182) (Nat.le_add_right _ _)) (cC_0 _ _ _ _ _) rfl 2 (by decide) (hts (.fieldLink RX11 26 "SeatsRound" "keepers" "LSeatsRound$Keepers;") (List.mem_of_getElem? (i := 1) rfl)) (fun _ h9 => h9) rfl dX11_table_88 ?_
          obtain ⟨r9, σ10, hf11, h⟩ := bsS h
          refine ux_calli (va_runV (As := [.ref (ad 182), .ref (ad 7)]) (rest := []) ⟨hx, hb, hml, hown, hts⟩ (tX3_workOut l dC dI cy ad τ nb hτ σ8 H.size r9 σ10 hf11) (cwV 2 hts gX11_table_X3_workOut rfl rfl rfl (by decide +kernel) ⟨Nat.le_of_ble_eq_true rfl, Nat.le_of_ble_eq_true rfl⟩) (wp_V hK hN hP hD (va_recv hK hP (ci := 3) (q0 := 13) rfl (wG_of (Nat.lt_of_lt_of_le (Nat.le_of_ble_eq_true rfl : 13 < 182) (Nat.le_add_right _ _)) (cC_13 _ _ _ _ _)))) rfl rfl hl.1 rfl (lv_room (Nat.le_of_ble_eq_true rfl)) dX11_table_91 ⟨Nat.le_of_ble_eq_true rfl, Nat.le_of_ble_eq_true rfl⟩) hD hS hA (fun H locs hP hD hS => ?_)
          refine lv_istore (lv' := [(4, .int r9), (0, .ref (ad 0)), (1, .int x1), (2, .int x2), (3, .int v1)]) hx hb dX11_table_94 hl (by decide) rfl (fun ls hl => ?_)
          have hl := lv_sub hl [1, 2, 3, 4, 0] (l' := [(0, .ref (ad 0)), (1, .int x1), (2, .int x2), (3, .int v1), (4, .int r9)]) rfl
          refine lv_iload hx hb dX11_table_96 (lv_at hl 4 rfl) ?_
          refine lv_iconst (v := (-1)) hx hb dX11_table_98 (by decide) ?_
          refine lv_icmp_eq (tgt := 108) hx hb dX11_table_99 (by decide) (fun hcd => ?_) (fun hcd => ?_)
          · have h := cdP hcd h
            exact tab_new l dC dI cy ad τ nb hτ hnb hx hb hml hr hlocks hown hts hK hN hP hD hS hA (lv_sub hl [0, 2] rfl) h
          · have h := cdN hcd h
            refine lv_bipush (v := (-100)) hx hb dX11_table_102 (by decide) ?_
            refine lv_iload hx hb dX11_table_104 (lv_at hl 4 rfl) ?_
            refine lv_isub hx hb dX11_table_106 ?_
            exact ux_iretT hx hb hr h hP hD hS hlocks dX11_table_107
        · have h := cdN hcd h
          refine lv_bipush (v := (-3)) hx hb dX11_table_35 (by decide) ?_
          exact ux_iretT hx hb hr h hP hD hS hlocks dX11_table_37
      · have h := cdN hcd h
        refine lv_iconst (v := (-1)) hx hb dX11_table_24 (by decide) ?_
        exact ux_iretT hx hb hr h hP hD hS hlocks dX11_table_25
  intro H locs ls h hP hD hS hl
  exact w0 σ a1 a2 H locs ls h hP hD hS (lv_sub hl [0, 1, 2] rfl)
